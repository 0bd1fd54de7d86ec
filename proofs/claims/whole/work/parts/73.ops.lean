/-! an operation of the script, on both sides -/
abbrev Lv (Y : Yc) (i : Int) : List (Option Value) := [some (.ref (ya Y)), some (.ref (ga (GX (bx Y)) 0)), some (.ref (ga (GM (bm Y)) 0)), some (iv i)]
section LO
variable {Y : Yc} {pc : Nat} {lv : List (Option Value)} {rest : List Value} {w : W2}
theorem lr_same (F : LF Y) {x : Int32} {off : Int} {tgt : Nat} (hd : decode code pc = .ok (.if_icmp .eq off, 3)) (ht : (pc : Int) + off = (tgt : Int)) (k : LW Y tgt lv rest w) : LW Y pc lv (.int x :: .int x :: rest) w := by
  intro H locs ls hP hD hS hO hl
  exact lv_icmp_eq F.1 F.2.1 hd ht (fun _ => k H locs ls hP hD hS hO hl) (fun h => absurd rfl h)
theorem cmp_self (x : Int64) : lg_cmp x x = 0 := by
  unfold lg_cmp
  simp
theorem lr_sameL (F : LF Y) {x : Int64} {off : Int} {tgt : Nat} (hd : decode code pc = .ok (.lcmp, 1)) (hd2 : decode code (pc + 1) = .ok (.ifCond .eq off, 3)) (ht : ((pc + 1 : Nat) : Int) + off = (tgt : Int)) (k : LW Y tgt lv rest w) : LW Y pc lv (.long x :: .long x :: rest) w := by
  refine lr_lcmp F hd ?_
  rw [cmp_self]
  intro H locs ls hP hD hS hO hl
  exact lv_if_eq F.1 F.2.1 hd2 ht (fun _ => k H locs ls hP hD hS hO hl) (fun h => absurd rfl h)
theorem lr_tl {x : Int64} (k : LW Y pc lv (lq x.toInt :: rest) w) : LW Y pc lv (.long x :: rest) w := by
  have e : lq x.toInt = .long x := by show Value.long (Int64.ofInt x.toInt) = _; rw [Int64.ofInt_toInt]
  rw [e] at k
  exact k
theorem and31 (x : Int32) : ∃ v : Int, (0 ≤ v ∧ v ≤ 31) ∧ x &&& Int32.ofInt 31 = Int32.ofInt v := by
  have e : x = nI x.toBitVec.toNat := by
    apply Int32.toBitVec_inj.mp
    apply BitVec.eq_of_toNat_eq
    rw [pk_tn x.toBitVec.isLt]
  have h31 : Int32.ofInt 31 = nI 31 := i32_n 31
  refine ⟨((x.toBitVec.toNat &&& 31 : Nat) : Int), ⟨by omega, ?_⟩, ?_⟩
  · have := Nat.and_le_right (n := x.toBitVec.toNat) (m := 31)
    omega
  · rw [i32_n, h31]
    conv => lhs; rw [e]
    exact nI_and x.toBitVec.isLt (by decide)
end LO

theorem op_0 {Y : Yc} (F : LF Y) {i : Int} (hi : 0 ≤ i) (hL : i + 7 ≤ yL Y) {w : W2} (hw : IX w.1 ∧ RM w.1 w.2) (k : ∀ a b : Wd, IX a ∧ RM a b → LW Y 1377 (Lv Y i) [] (a, b)) : LW Y 176 (Lv Y i) [] w := by
  have hLy : yL Y ≤ 3584 := F.2.2.2.2.2.2.2.2.2.2.2.2
  have hI := hw.1
  have hM := hw.2
  have g1 := hI.1.1
  have g3 := hI.2.2.1.1.1
  have g8 := hI.2.2.2.1.1.1
  have g18 := hI.2.2.2.2.2.1.1
  have g11 := hI.2.2.2.2.2.2.1.1
  have g14 := hI.2.2.2.2.2.2.1.2
  have g0 : 0 ≤ w.1 0 8 ∧ w.1 0 8 ≤ 10 := hI.2.2.2.2.1
  have s1 := sx_R Y (i + 1)
  have s2 := sx_R Y (i + 2)
  have s3 := sx_R Y (i + 3)
  have s4 := sx_R Y (i + 4)
  have s5 := sx_R Y (i + 5)
  refine lr_aload_n F dL_law_176 rfl ?_
  refine lr_aload_n F dL_law_177 rfl ?_
  refine lr_iload_n F dL_law_178 rfl ?_
  refine lr_iconst F dL_law_179 ?_
  refine lr_iadd F dL_law_180 ?_
  refine lr_sld F dL_law_181 (by omega) (by omega) ?_
  refine lr_aload_n F dL_law_182 rfl ?_
  refine lr_iload_n F dL_law_183 rfl ?_
  refine lr_iconst F dL_law_184 ?_
  refine lr_iadd F dL_law_185 ?_
  refine lr_sld F dL_law_186 (by omega) (by omega) ?_
  refine lr_aload_n F dL_law_187 rfl ?_
  refine lr_iload_n F dL_law_188 rfl ?_
  refine lr_iconst F dL_law_189 ?_
  refine lr_iadd F dL_law_190 ?_
  refine lr_sld F dL_law_191 (by omega) (by omega) ?_
  refine lr_aload_n F dL_law_192 rfl ?_
  refine lr_iload_n F dL_law_193 rfl ?_
  refine lr_iconst F dL_law_194 ?_
  refine lr_iadd F dL_law_195 ?_
  refine lr_sld F dL_law_196 (by omega) (by omega) ?_
  refine lr_aload_n F dL_law_197 rfl ?_
  refine lr_iload_n F dL_law_198 rfl ?_
  refine lr_iconst F dL_law_199 ?_
  refine lr_iadd F dL_law_200 ?_
  refine lr_sld F dL_law_201 (by omega) (by omega) ?_
  refine lr_cX (rest := []) (As := [iv (sx Y (i + 1)), iv (sx Y (i + 2)), iv (sx Y (i + 3)), iv (sx Y (i + 4)), iv (sx Y (i + 5))]) (q := (RX7, TX7, 9)) F dL_law_202 cv_L_13 (c_X7_reign (B := bx Y) (w := w.1) g1 (I1_q4 hI.1) (I1_q5 hI.1) s1 s2 s3 s4 s5) rfl rfl rfl ⟨(Nat.le_of_ble_eq_true rfl), (Nat.le_of_ble_eq_true rfl)⟩ rfl (Nat.le_of_ble_eq_true rfl) (fun v ux hx => ?_)
  obtain ⟨rfl, rfl⟩ := hx
  refine lr_aload_n F dL_law_205 rfl ?_
  refine lr_aload_n F dL_law_206 rfl ?_
  refine lr_iload_n F dL_law_207 rfl ?_
  refine lr_iconst F dL_law_208 ?_
  refine lr_iadd F dL_law_209 ?_
  refine lr_sld F dL_law_210 (by omega) (by omega) ?_
  refine lr_aload_n F dL_law_211 rfl ?_
  refine lr_iload_n F dL_law_212 rfl ?_
  refine lr_iconst F dL_law_213 ?_
  refine lr_iadd F dL_law_214 ?_
  refine lr_sld F dL_law_215 (by omega) (by omega) ?_
  refine lr_aload_n F dL_law_216 rfl ?_
  refine lr_iload_n F dL_law_217 rfl ?_
  refine lr_iconst F dL_law_218 ?_
  refine lr_iadd F dL_law_219 ?_
  refine lr_sld F dL_law_220 (by omega) (by omega) ?_
  refine lr_aload_n F dL_law_221 rfl ?_
  refine lr_iload_n F dL_law_222 rfl ?_
  refine lr_iconst F dL_law_223 ?_
  refine lr_iadd F dL_law_224 ?_
  refine lr_sld F dL_law_225 (by omega) (by omega) ?_
  refine lr_aload_n F dL_law_226 rfl ?_
  refine lr_iload_n F dL_law_227 rfl ?_
  refine lr_iconst F dL_law_228 ?_
  refine lr_iadd F dL_law_229 ?_
  refine lr_sld F dL_law_230 (by omega) (by omega) ?_
  refine lr_cM (rest := _) (As := [iv (sx Y (i + 1)), iv (sx Y (i + 2)), iv (sx Y (i + 3)), iv (sx Y (i + 4)), iv (sx Y (i + 5))]) (q := (RX8, TX8, 34)) F dL_law_231 cv_L_17 (c_X8_reign (B := bm Y) (w := w.1) (m := w.2) hM g1 hI.1.2.1.1 hI.1.2.1.2 hI.1.2.2.1 s1 s2 s3 s4 s5) rfl rfl rfl ⟨(Nat.le_of_ble_eq_true rfl), (Nat.le_of_ble_eq_true rfl)⟩ rfl (Nat.le_of_ble_eq_true rfl) (fun v um hm => ?_)
  obtain ⟨rfl, rfl⟩ := hm
  exact lr_same F dL_law_234 (by decide) (k _ _ (INV_reign hw))
theorem op_1 {Y : Yc} (F : LF Y) {i : Int} (hi : 0 ≤ i) (hL : i + 7 ≤ yL Y) {w : W2} (hw : IX w.1 ∧ RM w.1 w.2) (k : ∀ a b : Wd, IX a ∧ RM a b → LW Y 1377 (Lv Y i) [] (a, b)) : LW Y 239 (Lv Y i) [] w := by
  have hLy : yL Y ≤ 3584 := F.2.2.2.2.2.2.2.2.2.2.2.2
  have hI := hw.1
  have hM := hw.2
  have g1 := hI.1.1
  have g3 := hI.2.2.1.1.1
  have g8 := hI.2.2.2.1.1.1
  have g18 := hI.2.2.2.2.2.1.1
  have g11 := hI.2.2.2.2.2.2.1.1
  have g14 := hI.2.2.2.2.2.2.1.2
  have g0 : 0 ≤ w.1 0 8 ∧ w.1 0 8 ≤ 10 := hI.2.2.2.2.1
  have s1 := sx_R Y (i + 1)
  have s2 := sx_R Y (i + 2)
  refine lr_aload_n F dL_law_239 rfl ?_
  refine lr_aload_n F dL_law_240 rfl ?_
  refine lr_iload_n F dL_law_241 rfl ?_
  refine lr_iconst F dL_law_242 ?_
  refine lr_iadd F dL_law_243 ?_
  refine lr_sld F dL_law_244 (by omega) (by omega) ?_
  refine lr_aload_n F dL_law_245 rfl ?_
  refine lr_iload_n F dL_law_246 rfl ?_
  refine lr_iconst F dL_law_247 ?_
  refine lr_iadd F dL_law_248 ?_
  refine lr_sld F dL_law_249 (by omega) (by omega) ?_
  refine lr_cX (rest := []) (As := [iv (sx Y (i + 1)), iv (sx Y (i + 2))]) (q := (RX7, TX7, 9)) F dL_law_250 cv_L_18 (c_X7_about (B := bx Y) (w := w.1) g1 s1 s2) rfl rfl rfl ⟨(Nat.le_of_ble_eq_true rfl), (Nat.le_of_ble_eq_true rfl)⟩ rfl (Nat.le_of_ble_eq_true rfl) (fun v ux hx => ?_)
  obtain ⟨rfl, rfl⟩ := hx
  refine lr_aload_n F dL_law_253 rfl ?_
  refine lr_aload_n F dL_law_254 rfl ?_
  refine lr_iload_n F dL_law_255 rfl ?_
  refine lr_iconst F dL_law_256 ?_
  refine lr_iadd F dL_law_257 ?_
  refine lr_sld F dL_law_258 (by omega) (by omega) ?_
  refine lr_aload_n F dL_law_259 rfl ?_
  refine lr_iload_n F dL_law_260 rfl ?_
  refine lr_iconst F dL_law_261 ?_
  refine lr_iadd F dL_law_262 ?_
  refine lr_sld F dL_law_263 (by omega) (by omega) ?_
  refine lr_cM (rest := _) (As := [iv (sx Y (i + 1)), iv (sx Y (i + 2))]) (q := (RX8, TX8, 34)) F dL_law_264 cv_L_22 (c_X8_about (B := bm Y) (w := w.1) (m := w.2) hM g1 s1 s2) rfl rfl rfl ⟨(Nat.le_of_ble_eq_true rfl), (Nat.le_of_ble_eq_true rfl)⟩ rfl (Nat.le_of_ble_eq_true rfl) (fun v um hm => ?_)
  obtain ⟨rfl, rfl⟩ := hm
  exact lr_same F dL_law_267 (by decide) (k _ _ hw)
theorem op_2 {Y : Yc} (F : LF Y) {i : Int} (hi : 0 ≤ i) (hL : i + 7 ≤ yL Y) {w : W2} (hw : IX w.1 ∧ RM w.1 w.2) (k : ∀ a b : Wd, IX a ∧ RM a b → LW Y 1377 (Lv Y i) [] (a, b)) : LW Y 272 (Lv Y i) [] w := by
  have hLy : yL Y ≤ 3584 := F.2.2.2.2.2.2.2.2.2.2.2.2
  have hI := hw.1
  have hM := hw.2
  have g1 := hI.1.1
  have g3 := hI.2.2.1.1.1
  have g8 := hI.2.2.2.1.1.1
  have g18 := hI.2.2.2.2.2.1.1
  have g11 := hI.2.2.2.2.2.2.1.1
  have g14 := hI.2.2.2.2.2.2.1.2
  have g0 : 0 ≤ w.1 0 8 ∧ w.1 0 8 ≤ 10 := hI.2.2.2.2.1
  have s1 := sx_R Y (i + 1)
  have s2 := sx_R Y (i + 2)
  refine lr_aload_n F dL_law_272 rfl ?_
  refine lr_aload_n F dL_law_273 rfl ?_
  refine lr_iload_n F dL_law_274 rfl ?_
  refine lr_iconst F dL_law_275 ?_
  refine lr_iadd F dL_law_276 ?_
  refine lr_sld F dL_law_277 (by omega) (by omega) ?_
  refine lr_aload_n F dL_law_278 rfl ?_
  refine lr_iload_n F dL_law_279 rfl ?_
  refine lr_iconst F dL_law_280 ?_
  refine lr_iadd F dL_law_281 ?_
  refine lr_sld F dL_law_282 (by omega) (by omega) ?_
  refine lr_cX (rest := []) (As := [iv (sx Y (i + 1)), iv (sx Y (i + 2))]) (q := (RX7, TX7, 9)) F dL_law_283 cv_L_23 (c_X7_as (B := bx Y) (w := w.1) g1 s1 s2) rfl rfl rfl ⟨(Nat.le_of_ble_eq_true rfl), (Nat.le_of_ble_eq_true rfl)⟩ rfl (Nat.le_of_ble_eq_true rfl) (fun v ux hx => ?_)
  obtain ⟨rfl, rfl⟩ := hx
  refine lr_aload_n F dL_law_286 rfl ?_
  refine lr_aload_n F dL_law_287 rfl ?_
  refine lr_iload_n F dL_law_288 rfl ?_
  refine lr_iconst F dL_law_289 ?_
  refine lr_iadd F dL_law_290 ?_
  refine lr_sld F dL_law_291 (by omega) (by omega) ?_
  refine lr_aload_n F dL_law_292 rfl ?_
  refine lr_iload_n F dL_law_293 rfl ?_
  refine lr_iconst F dL_law_294 ?_
  refine lr_iadd F dL_law_295 ?_
  refine lr_sld F dL_law_296 (by omega) (by omega) ?_
  refine lr_cM (rest := _) (As := [iv (sx Y (i + 1)), iv (sx Y (i + 2))]) (q := (RX8, TX8, 34)) F dL_law_297 cv_L_26 (c_X8_as (B := bm Y) (w := w.1) (m := w.2) hM g1 s1 s2) rfl rfl rfl ⟨(Nat.le_of_ble_eq_true rfl), (Nat.le_of_ble_eq_true rfl)⟩ rfl (Nat.le_of_ble_eq_true rfl) (fun v um hm => ?_)
  obtain ⟨rfl, rfl⟩ := hm
  exact lr_same F dL_law_300 (by decide) (k _ _ hw)
theorem op_3 {Y : Yc} (F : LF Y) {i : Int} (hi : 0 ≤ i) (hL : i + 7 ≤ yL Y) {w : W2} (hw : IX w.1 ∧ RM w.1 w.2) (k : ∀ a b : Wd, IX a ∧ RM a b → LW Y 1377 (Lv Y i) [] (a, b)) : LW Y 305 (Lv Y i) [] w := by
  have hLy : yL Y ≤ 3584 := F.2.2.2.2.2.2.2.2.2.2.2.2
  have hI := hw.1
  have hM := hw.2
  have g1 := hI.1.1
  have g3 := hI.2.2.1.1.1
  have g8 := hI.2.2.2.1.1.1
  have g18 := hI.2.2.2.2.2.1.1
  have g11 := hI.2.2.2.2.2.2.1.1
  have g14 := hI.2.2.2.2.2.2.1.2
  have g0 : 0 ≤ w.1 0 8 ∧ w.1 0 8 ≤ 10 := hI.2.2.2.2.1
  have s1 := sx_R Y (i + 1)
  have s2 := sx_R Y (i + 2)
  have s3 := sx_R Y (i + 3)
  refine lr_aload_n F dL_law_305 rfl ?_
  refine lr_aload_n F dL_law_306 rfl ?_
  refine lr_iload_n F dL_law_307 rfl ?_
  refine lr_iconst F dL_law_308 ?_
  refine lr_iadd F dL_law_309 ?_
  refine lr_sld F dL_law_310 (by omega) (by omega) ?_
  refine lr_aload_n F dL_law_311 rfl ?_
  refine lr_iload_n F dL_law_312 rfl ?_
  refine lr_iconst F dL_law_313 ?_
  refine lr_iadd F dL_law_314 ?_
  refine lr_sld F dL_law_315 (by omega) (by omega) ?_
  refine lr_aload_n F dL_law_316 rfl ?_
  refine lr_iload_n F dL_law_317 rfl ?_
  refine lr_iconst F dL_law_318 ?_
  refine lr_iadd F dL_law_319 ?_
  refine lr_sld F dL_law_320 (by omega) (by omega) ?_
  refine lr_cX (rest := []) (As := [iv (sx Y (i + 1)), iv (sx Y (i + 2)), iv (sx Y (i + 3))]) (q := (RX7, TX7, 9)) F dL_law_321 cv_L_27 (c_X7_lasts (B := bx Y) (w := w.1) (I1_RI hI.1) s1 s2 s3) rfl rfl rfl ⟨(Nat.le_of_ble_eq_true rfl), (Nat.le_of_ble_eq_true rfl)⟩ rfl (Nat.le_of_ble_eq_true rfl) (fun v ux hx => ?_)
  obtain ⟨rfl, rfl⟩ := hx
  refine lr_aload_n F dL_law_324 rfl ?_
  refine lr_aload_n F dL_law_325 rfl ?_
  refine lr_iload_n F dL_law_326 rfl ?_
  refine lr_iconst F dL_law_327 ?_
  refine lr_iadd F dL_law_328 ?_
  refine lr_sld F dL_law_329 (by omega) (by omega) ?_
  refine lr_aload_n F dL_law_330 rfl ?_
  refine lr_iload_n F dL_law_331 rfl ?_
  refine lr_iconst F dL_law_332 ?_
  refine lr_iadd F dL_law_333 ?_
  refine lr_sld F dL_law_334 (by omega) (by omega) ?_
  refine lr_aload_n F dL_law_335 rfl ?_
  refine lr_iload_n F dL_law_336 rfl ?_
  refine lr_iconst F dL_law_337 ?_
  refine lr_iadd F dL_law_338 ?_
  refine lr_sld F dL_law_339 (by omega) (by omega) ?_
  refine lr_cM (rest := _) (As := [iv (sx Y (i + 1)), iv (sx Y (i + 2)), iv (sx Y (i + 3))]) (q := (RX8, TX8, 34)) F dL_law_340 cv_L_31 (c_X8_lasts (B := bm Y) (w := w.1) (m := w.2) hM (I1_RI hI.1) s1 s2 s3) rfl rfl rfl ⟨(Nat.le_of_ble_eq_true rfl), (Nat.le_of_ble_eq_true rfl)⟩ rfl (Nat.le_of_ble_eq_true rfl) (fun v um hm => ?_)
  obtain ⟨rfl, rfl⟩ := hm
  exact lr_same F dL_law_343 (by decide) (k _ _ hw)
theorem op_4 {Y : Yc} (F : LF Y) {i : Int} (hi : 0 ≤ i) (hL : i + 7 ≤ yL Y) {w : W2} (hw : IX w.1 ∧ RM w.1 w.2) (k : ∀ a b : Wd, IX a ∧ RM a b → LW Y 1377 (Lv Y i) [] (a, b)) : LW Y 348 (Lv Y i) [] w := by
  have hLy : yL Y ≤ 3584 := F.2.2.2.2.2.2.2.2.2.2.2.2
  have hI := hw.1
  have hM := hw.2
  have g1 := hI.1.1
  have g3 := hI.2.2.1.1.1
  have g8 := hI.2.2.2.1.1.1
  have g18 := hI.2.2.2.2.2.1.1
  have g11 := hI.2.2.2.2.2.2.1.1
  have g14 := hI.2.2.2.2.2.2.1.2
  have g0 : 0 ≤ w.1 0 8 ∧ w.1 0 8 ≤ 10 := hI.2.2.2.2.1
  have s1 := sx_R Y (i + 1)
  have s2 := sx_R Y (i + 2)
  refine lr_aload_n F dL_law_348 rfl ?_
  refine lr_aload_n F dL_law_349 rfl ?_
  refine lr_iload_n F dL_law_350 rfl ?_
  refine lr_iconst F dL_law_351 ?_
  refine lr_iadd F dL_law_352 ?_
  refine lr_sld F dL_law_353 (by omega) (by omega) ?_
  refine lr_aload_n F dL_law_354 rfl ?_
  refine lr_iload_n F dL_law_355 rfl ?_
  refine lr_iconst F dL_law_356 ?_
  refine lr_iadd F dL_law_357 ?_
  refine lr_sld F dL_law_358 (by omega) (by omega) ?_
  refine lr_cX (rest := []) (As := [iv (sx Y (i + 1)), iv (sx Y (i + 2))]) (q := (RX7, TX7, 9)) F dL_law_359 cv_L_32 (c_X7_number (B := bx Y) (w := w.1) (I1_RI hI.1) s1 s2) rfl rfl rfl ⟨(Nat.le_of_ble_eq_true rfl), (Nat.le_of_ble_eq_true rfl)⟩ rfl (Nat.le_of_ble_eq_true rfl) (fun v ux hx => ?_)
  obtain ⟨rfl, rfl⟩ := hx
  refine lr_aload_n F dL_law_362 rfl ?_
  refine lr_aload_n F dL_law_363 rfl ?_
  refine lr_iload_n F dL_law_364 rfl ?_
  refine lr_iconst F dL_law_365 ?_
  refine lr_iadd F dL_law_366 ?_
  refine lr_sld F dL_law_367 (by omega) (by omega) ?_
  refine lr_aload_n F dL_law_368 rfl ?_
  refine lr_iload_n F dL_law_369 rfl ?_
  refine lr_iconst F dL_law_370 ?_
  refine lr_iadd F dL_law_371 ?_
  refine lr_sld F dL_law_372 (by omega) (by omega) ?_
  refine lr_cM (rest := _) (As := [iv (sx Y (i + 1)), iv (sx Y (i + 2))]) (q := (RX8, TX8, 34)) F dL_law_373 cv_L_35 (c_X8_number (B := bm Y) (w := w.1) (m := w.2) hM (I1_RI hI.1) s1 s2) rfl rfl rfl ⟨(Nat.le_of_ble_eq_true rfl), (Nat.le_of_ble_eq_true rfl)⟩ rfl (Nat.le_of_ble_eq_true rfl) (fun v um hm => ?_)
  obtain ⟨rfl, rfl⟩ := hm
  exact lr_same F dL_law_376 (by decide) (k _ _ (INV_number hw))
theorem op_5 {Y : Yc} (F : LF Y) {i : Int} (hi : 0 ≤ i) (hL : i + 7 ≤ yL Y) {w : W2} (hw : IX w.1 ∧ RM w.1 w.2) (k : ∀ a b : Wd, IX a ∧ RM a b → LW Y 1377 (Lv Y i) [] (a, b)) : LW Y 381 (Lv Y i) [] w := by
  have hLy : yL Y ≤ 3584 := F.2.2.2.2.2.2.2.2.2.2.2.2
  have hI := hw.1
  have hM := hw.2
  have g1 := hI.1.1
  have g3 := hI.2.2.1.1.1
  have g8 := hI.2.2.2.1.1.1
  have g18 := hI.2.2.2.2.2.1.1
  have g11 := hI.2.2.2.2.2.2.1.1
  have g14 := hI.2.2.2.2.2.2.1.2
  have g0 : 0 ≤ w.1 0 8 ∧ w.1 0 8 ≤ 10 := hI.2.2.2.2.1
  have s1 := sx_R Y (i + 1)
  have s2 := sx_R Y (i + 2)
  have s3 := sx_R Y (i + 3)
  have s4 := sx_R Y (i + 4)
  have s5 := sx_R Y (i + 5)
  have s6 := sx_R Y (i + 6)
  refine lr_aload_n F dL_law_381 rfl ?_
  refine lr_aload_n F dL_law_382 rfl ?_
  refine lr_iload_n F dL_law_383 rfl ?_
  refine lr_iconst F dL_law_384 ?_
  refine lr_iadd F dL_law_385 ?_
  refine lr_sld F dL_law_386 (by omega) (by omega) ?_
  refine lr_aload_n F dL_law_387 rfl ?_
  refine lr_iload_n F dL_law_388 rfl ?_
  refine lr_iconst F dL_law_389 ?_
  refine lr_iadd F dL_law_390 ?_
  refine lr_sld F dL_law_391 (by omega) (by omega) ?_
  refine lr_aload_n F dL_law_392 rfl ?_
  refine lr_iload_n F dL_law_393 rfl ?_
  refine lr_iconst F dL_law_394 ?_
  refine lr_iadd F dL_law_395 ?_
  refine lr_sld F dL_law_396 (by omega) (by omega) ?_
  refine lr_aload_n F dL_law_397 rfl ?_
  refine lr_iload_n F dL_law_398 rfl ?_
  refine lr_iconst F dL_law_399 ?_
  refine lr_iadd F dL_law_400 ?_
  refine lr_sld F dL_law_401 (by omega) (by omega) ?_
  refine lr_aload_n F dL_law_402 rfl ?_
  refine lr_iload_n F dL_law_403 rfl ?_
  refine lr_iconst F dL_law_404 ?_
  refine lr_iadd F dL_law_405 ?_
  refine lr_sld F dL_law_406 (by omega) (by omega) ?_
  refine lr_aload_n F dL_law_407 rfl ?_
  refine lr_iload_n F dL_law_408 rfl ?_
  refine lr_bipush F dL_law_409 (by decide) ?_
  refine lr_iadd F dL_law_411 ?_
  refine lr_sld F dL_law_412 (by omega) (by omega) ?_
  refine lr_cX (rest := []) (As := [iv (sx Y (i + 1)), iv (sx Y (i + 2)), iv (sx Y (i + 3)), iv (sx Y (i + 4)), iv (sx Y (i + 5)), iv (sx Y (i + 6))]) (q := (RX7, TX7, 9)) F dL_law_413 cv_L_36 (c_X7_tie (B := bx Y) (w := w.1) g1 g3 hI.2.2.1.1.2 s1 s2 s3 s4 s5 s6) rfl rfl rfl ⟨(Nat.le_of_ble_eq_true rfl), (Nat.le_of_ble_eq_true rfl)⟩ rfl (Nat.le_of_ble_eq_true rfl) (fun v ux hx => ?_)
  obtain ⟨rfl, rfl⟩ := hx
  refine lr_aload_n F dL_law_416 rfl ?_
  refine lr_aload_n F dL_law_417 rfl ?_
  refine lr_iload_n F dL_law_418 rfl ?_
  refine lr_iconst F dL_law_419 ?_
  refine lr_iadd F dL_law_420 ?_
  refine lr_sld F dL_law_421 (by omega) (by omega) ?_
  refine lr_aload_n F dL_law_422 rfl ?_
  refine lr_iload_n F dL_law_423 rfl ?_
  refine lr_iconst F dL_law_424 ?_
  refine lr_iadd F dL_law_425 ?_
  refine lr_sld F dL_law_426 (by omega) (by omega) ?_
  refine lr_aload_n F dL_law_427 rfl ?_
  refine lr_iload_n F dL_law_428 rfl ?_
  refine lr_iconst F dL_law_429 ?_
  refine lr_iadd F dL_law_430 ?_
  refine lr_sld F dL_law_431 (by omega) (by omega) ?_
  refine lr_aload_n F dL_law_432 rfl ?_
  refine lr_iload_n F dL_law_433 rfl ?_
  refine lr_iconst F dL_law_434 ?_
  refine lr_iadd F dL_law_435 ?_
  refine lr_sld F dL_law_436 (by omega) (by omega) ?_
  refine lr_aload_n F dL_law_437 rfl ?_
  refine lr_iload_n F dL_law_438 rfl ?_
  refine lr_iconst F dL_law_439 ?_
  refine lr_iadd F dL_law_440 ?_
  refine lr_sld F dL_law_441 (by omega) (by omega) ?_
  refine lr_aload_n F dL_law_442 rfl ?_
  refine lr_iload_n F dL_law_443 rfl ?_
  refine lr_bipush F dL_law_444 (by decide) ?_
  refine lr_iadd F dL_law_446 ?_
  refine lr_sld F dL_law_447 (by omega) (by omega) ?_
  refine lr_cM (rest := _) (As := [iv (sx Y (i + 1)), iv (sx Y (i + 2)), iv (sx Y (i + 3)), iv (sx Y (i + 4)), iv (sx Y (i + 5)), iv (sx Y (i + 6))]) (q := (RX8, TX8, 34)) F dL_law_448 cv_L_40 (c_X8_tie (B := bm Y) (w := w.1) (m := w.2) hM g1 g3 s1 s2 s3 s4 s5 s6) rfl rfl rfl ⟨(Nat.le_of_ble_eq_true rfl), (Nat.le_of_ble_eq_true rfl)⟩ rfl (Nat.le_of_ble_eq_true rfl) (fun v um hm => ?_)
  obtain ⟨rfl, rfl⟩ := hm
  exact lr_same F dL_law_451 (by decide) (k _ _ (INV_tie hw))
theorem op_6 {Y : Yc} (F : LF Y) {i : Int} (hi : 0 ≤ i) (hL : i + 7 ≤ yL Y) {w : W2} (hw : IX w.1 ∧ RM w.1 w.2) (k : ∀ a b : Wd, IX a ∧ RM a b → LW Y 1377 (Lv Y i) [] (a, b)) : LW Y 456 (Lv Y i) [] w := by
  have hLy : yL Y ≤ 3584 := F.2.2.2.2.2.2.2.2.2.2.2.2
  have hI := hw.1
  have hM := hw.2
  have g1 := hI.1.1
  have g3 := hI.2.2.1.1.1
  have g8 := hI.2.2.2.1.1.1
  have g18 := hI.2.2.2.2.2.1.1
  have g11 := hI.2.2.2.2.2.2.1.1
  have g14 := hI.2.2.2.2.2.2.1.2
  have g0 : 0 ≤ w.1 0 8 ∧ w.1 0 8 ≤ 10 := hI.2.2.2.2.1
  have s1 := sx_R Y (i + 1)
  have s2 := sx_R Y (i + 2)
  have s3 := sx_R Y (i + 3)
  have s4 := sx_R Y (i + 4)
  have s5 := sx_R Y (i + 5)
  have s6 := sx_R Y (i + 6)
  refine lr_aload_n F dL_law_456 rfl ?_
  refine lr_aload_n F dL_law_457 rfl ?_
  refine lr_iload_n F dL_law_458 rfl ?_
  refine lr_iconst F dL_law_459 ?_
  refine lr_iadd F dL_law_460 ?_
  refine lr_sld F dL_law_461 (by omega) (by omega) ?_
  refine lr_aload_n F dL_law_462 rfl ?_
  refine lr_iload_n F dL_law_463 rfl ?_
  refine lr_iconst F dL_law_464 ?_
  refine lr_iadd F dL_law_465 ?_
  refine lr_sld F dL_law_466 (by omega) (by omega) ?_
  refine lr_aload_n F dL_law_467 rfl ?_
  refine lr_iload_n F dL_law_468 rfl ?_
  refine lr_iconst F dL_law_469 ?_
  refine lr_iadd F dL_law_470 ?_
  refine lr_sld F dL_law_471 (by omega) (by omega) ?_
  refine lr_aload_n F dL_law_472 rfl ?_
  refine lr_iload_n F dL_law_473 rfl ?_
  refine lr_iconst F dL_law_474 ?_
  refine lr_iadd F dL_law_475 ?_
  refine lr_sld F dL_law_476 (by omega) (by omega) ?_
  refine lr_aload_n F dL_law_477 rfl ?_
  refine lr_iload_n F dL_law_478 rfl ?_
  refine lr_iconst F dL_law_479 ?_
  refine lr_iadd F dL_law_480 ?_
  refine lr_sld F dL_law_481 (by omega) (by omega) ?_
  refine lr_aload_n F dL_law_482 rfl ?_
  refine lr_iload_n F dL_law_483 rfl ?_
  refine lr_bipush F dL_law_484 (by decide) ?_
  refine lr_iadd F dL_law_486 ?_
  refine lr_sld F dL_law_487 (by omega) (by omega) ?_
  refine lr_cX (rest := []) (As := [iv (sx Y (i + 1)), iv (sx Y (i + 2)), iv (sx Y (i + 3)), iv (sx Y (i + 4)), iv (sx Y (i + 5)), iv (sx Y (i + 6))]) (q := (RX7, TX7, 9)) F dL_law_488 cv_L_41 (c_X7_sky (B := bx Y) (w := w.1) g1 g3 hI.2.2.1.1.2 (I5_q4 hI.2.2.1) s1 s2 s3 s4 s5 s6) rfl rfl rfl ⟨(Nat.le_of_ble_eq_true rfl), (Nat.le_of_ble_eq_true rfl)⟩ rfl (Nat.le_of_ble_eq_true rfl) (fun v ux hx => ?_)
  obtain ⟨rfl, rfl⟩ := hx
  refine lr_aload_n F dL_law_491 rfl ?_
  refine lr_aload_n F dL_law_492 rfl ?_
  refine lr_iload_n F dL_law_493 rfl ?_
  refine lr_iconst F dL_law_494 ?_
  refine lr_iadd F dL_law_495 ?_
  refine lr_sld F dL_law_496 (by omega) (by omega) ?_
  refine lr_aload_n F dL_law_497 rfl ?_
  refine lr_iload_n F dL_law_498 rfl ?_
  refine lr_iconst F dL_law_499 ?_
  refine lr_iadd F dL_law_500 ?_
  refine lr_sld F dL_law_501 (by omega) (by omega) ?_
  refine lr_aload_n F dL_law_502 rfl ?_
  refine lr_iload_n F dL_law_503 rfl ?_
  refine lr_iconst F dL_law_504 ?_
  refine lr_iadd F dL_law_505 ?_
  refine lr_sld F dL_law_506 (by omega) (by omega) ?_
  refine lr_aload_n F dL_law_507 rfl ?_
  refine lr_iload_n F dL_law_508 rfl ?_
  refine lr_iconst F dL_law_509 ?_
  refine lr_iadd F dL_law_510 ?_
  refine lr_sld F dL_law_511 (by omega) (by omega) ?_
  refine lr_aload_n F dL_law_512 rfl ?_
  refine lr_iload_n F dL_law_513 rfl ?_
  refine lr_iconst F dL_law_514 ?_
  refine lr_iadd F dL_law_515 ?_
  refine lr_sld F dL_law_516 (by omega) (by omega) ?_
  refine lr_aload_n F dL_law_517 rfl ?_
  refine lr_iload_n F dL_law_518 rfl ?_
  refine lr_bipush F dL_law_519 (by decide) ?_
  refine lr_iadd F dL_law_521 ?_
  refine lr_sld F dL_law_522 (by omega) (by omega) ?_
  refine lr_cM (rest := _) (As := [iv (sx Y (i + 1)), iv (sx Y (i + 2)), iv (sx Y (i + 3)), iv (sx Y (i + 4)), iv (sx Y (i + 5)), iv (sx Y (i + 6))]) (q := (RX8, TX8, 34)) F dL_law_523 cv_L_44 (c_X8_sky (B := bm Y) (w := w.1) (m := w.2) hM g1 g3 hI.2.2.1.2.1.1 hI.2.2.1.2.1.2 s1 s2 s3 s4 s5 s6) rfl rfl rfl ⟨(Nat.le_of_ble_eq_true rfl), (Nat.le_of_ble_eq_true rfl)⟩ rfl (Nat.le_of_ble_eq_true rfl) (fun v um hm => ?_)
  obtain ⟨rfl, rfl⟩ := hm
  exact lr_same F dL_law_526 (by decide) (k _ _ (INV_sky hw))
theorem op_7 {Y : Yc} (F : LF Y) {i : Int} (hi : 0 ≤ i) (hL : i + 7 ≤ yL Y) {w : W2} (hw : IX w.1 ∧ RM w.1 w.2) (k : ∀ a b : Wd, IX a ∧ RM a b → LW Y 1377 (Lv Y i) [] (a, b)) : LW Y 531 (Lv Y i) [] w := by
  have hLy : yL Y ≤ 3584 := F.2.2.2.2.2.2.2.2.2.2.2.2
  have hI := hw.1
  have hM := hw.2
  have g1 := hI.1.1
  have g3 := hI.2.2.1.1.1
  have g8 := hI.2.2.2.1.1.1
  have g18 := hI.2.2.2.2.2.1.1
  have g11 := hI.2.2.2.2.2.2.1.1
  have g14 := hI.2.2.2.2.2.2.1.2
  have g0 : 0 ≤ w.1 0 8 ∧ w.1 0 8 ≤ 10 := hI.2.2.2.2.1
  have s1 := sx_R Y (i + 1)
  have s2 := sx_R Y (i + 2)
  have s3 := sx_R Y (i + 3)
  have s4 := sx_R Y (i + 4)
  refine lr_aload_n F dL_law_531 rfl ?_
  refine lr_aload_n F dL_law_532 rfl ?_
  refine lr_iload_n F dL_law_533 rfl ?_
  refine lr_iconst F dL_law_534 ?_
  refine lr_iadd F dL_law_535 ?_
  refine lr_sld F dL_law_536 (by omega) (by omega) ?_
  refine lr_aload_n F dL_law_537 rfl ?_
  refine lr_iload_n F dL_law_538 rfl ?_
  refine lr_iconst F dL_law_539 ?_
  refine lr_iadd F dL_law_540 ?_
  refine lr_sld F dL_law_541 (by omega) (by omega) ?_
  refine lr_aload_n F dL_law_542 rfl ?_
  refine lr_iload_n F dL_law_543 rfl ?_
  refine lr_iconst F dL_law_544 ?_
  refine lr_iadd F dL_law_545 ?_
  refine lr_sld F dL_law_546 (by omega) (by omega) ?_
  refine lr_aload_n F dL_law_547 rfl ?_
  refine lr_iload_n F dL_law_548 rfl ?_
  refine lr_iconst F dL_law_549 ?_
  refine lr_iadd F dL_law_550 ?_
  refine lr_sld F dL_law_551 (by omega) (by omega) ?_
  refine lr_cX (rest := []) (As := [iv (sx Y (i + 1)), iv (sx Y (i + 2)), iv (sx Y (i + 3)), iv (sx Y (i + 4))]) (q := (RX7, TX7, 9)) F dL_law_552 cv_L_45 (c_X7_ring (B := bx Y) (w := w.1) g1 g3 hI.2.2.1.1.2 s1 s2 s3 s4) rfl rfl rfl ⟨(Nat.le_of_ble_eq_true rfl), (Nat.le_of_ble_eq_true rfl)⟩ rfl (Nat.le_of_ble_eq_true rfl) (fun v ux hx => ?_)
  obtain ⟨rfl, rfl⟩ := hx
  refine lr_aload_n F dL_law_555 rfl ?_
  refine lr_aload_n F dL_law_556 rfl ?_
  refine lr_iload_n F dL_law_557 rfl ?_
  refine lr_iconst F dL_law_558 ?_
  refine lr_iadd F dL_law_559 ?_
  refine lr_sld F dL_law_560 (by omega) (by omega) ?_
  refine lr_aload_n F dL_law_561 rfl ?_
  refine lr_iload_n F dL_law_562 rfl ?_
  refine lr_iconst F dL_law_563 ?_
  refine lr_iadd F dL_law_564 ?_
  refine lr_sld F dL_law_565 (by omega) (by omega) ?_
  refine lr_aload_n F dL_law_566 rfl ?_
  refine lr_iload_n F dL_law_567 rfl ?_
  refine lr_iconst F dL_law_568 ?_
  refine lr_iadd F dL_law_569 ?_
  refine lr_sld F dL_law_570 (by omega) (by omega) ?_
  refine lr_aload_n F dL_law_571 rfl ?_
  refine lr_iload_n F dL_law_572 rfl ?_
  refine lr_iconst F dL_law_573 ?_
  refine lr_iadd F dL_law_574 ?_
  refine lr_sld F dL_law_575 (by omega) (by omega) ?_
  refine lr_cM (rest := _) (As := [iv (sx Y (i + 1)), iv (sx Y (i + 2)), iv (sx Y (i + 3)), iv (sx Y (i + 4))]) (q := (RX8, TX8, 34)) F dL_law_576 cv_L_49 (c_X8_ring (B := bm Y) (w := w.1) (m := w.2) hM g1 g3 s1 s2 s3 s4) rfl rfl rfl ⟨(Nat.le_of_ble_eq_true rfl), (Nat.le_of_ble_eq_true rfl)⟩ rfl (Nat.le_of_ble_eq_true rfl) (fun v um hm => ?_)
  obtain ⟨rfl, rfl⟩ := hm
  exact lr_same F dL_law_579 (by decide) (k _ _ (INV_ring hw))
theorem op_8 {Y : Yc} (F : LF Y) {i : Int} (hi : 0 ≤ i) (hL : i + 7 ≤ yL Y) {w : W2} (hw : IX w.1 ∧ RM w.1 w.2) (k : ∀ a b : Wd, IX a ∧ RM a b → LW Y 1377 (Lv Y i) [] (a, b)) : LW Y 584 (Lv Y i) [] w := by
  have hLy : yL Y ≤ 3584 := F.2.2.2.2.2.2.2.2.2.2.2.2
  have hI := hw.1
  have hM := hw.2
  have g1 := hI.1.1
  have g3 := hI.2.2.1.1.1
  have g8 := hI.2.2.2.1.1.1
  have g18 := hI.2.2.2.2.2.1.1
  have g11 := hI.2.2.2.2.2.2.1.1
  have g14 := hI.2.2.2.2.2.2.1.2
  have g0 : 0 ≤ w.1 0 8 ∧ w.1 0 8 ≤ 10 := hI.2.2.2.2.1
  have s1 := sx_R Y (i + 1)
  have s2 := sx_R Y (i + 2)
  have s3 := sx_R Y (i + 3)
  have s4 := sx_R Y (i + 4)
  have s5 := sx_R Y (i + 5)
  refine lr_aload_n F dL_law_584 rfl ?_
  refine lr_aload_n F dL_law_585 rfl ?_
  refine lr_iload_n F dL_law_586 rfl ?_
  refine lr_iconst F dL_law_587 ?_
  refine lr_iadd F dL_law_588 ?_
  refine lr_sld F dL_law_589 (by omega) (by omega) ?_
  refine lr_aload_n F dL_law_590 rfl ?_
  refine lr_iload_n F dL_law_591 rfl ?_
  refine lr_iconst F dL_law_592 ?_
  refine lr_iadd F dL_law_593 ?_
  refine lr_sld F dL_law_594 (by omega) (by omega) ?_
  refine lr_aload_n F dL_law_595 rfl ?_
  refine lr_iload_n F dL_law_596 rfl ?_
  refine lr_iconst F dL_law_597 ?_
  refine lr_iadd F dL_law_598 ?_
  refine lr_sld F dL_law_599 (by omega) (by omega) ?_
  refine lr_aload_n F dL_law_600 rfl ?_
  refine lr_iload_n F dL_law_601 rfl ?_
  refine lr_iconst F dL_law_602 ?_
  refine lr_iadd F dL_law_603 ?_
  refine lr_sld F dL_law_604 (by omega) (by omega) ?_
  refine lr_aload_n F dL_law_605 rfl ?_
  refine lr_iload_n F dL_law_606 rfl ?_
  refine lr_iconst F dL_law_607 ?_
  refine lr_iadd F dL_law_608 ?_
  refine lr_sld F dL_law_609 (by omega) (by omega) ?_
  refine lr_cX (rest := []) (As := [iv (sx Y (i + 1)), iv (sx Y (i + 2)), iv (sx Y (i + 3)), iv (sx Y (i + 4)), iv (sx Y (i + 5))]) (q := (RX7, TX7, 9)) F dL_law_610 cv_L_50 (c_X7_letter (B := bx Y) (w := w.1) g1 g3 hI.2.2.1.1.2 s1 s2 s3 s4 s5) rfl rfl rfl ⟨(Nat.le_of_ble_eq_true rfl), (Nat.le_of_ble_eq_true rfl)⟩ rfl (Nat.le_of_ble_eq_true rfl) (fun v ux hx => ?_)
  obtain ⟨rfl, rfl⟩ := hx
  refine lr_aload_n F dL_law_613 rfl ?_
  refine lr_aload_n F dL_law_614 rfl ?_
  refine lr_iload_n F dL_law_615 rfl ?_
  refine lr_iconst F dL_law_616 ?_
  refine lr_iadd F dL_law_617 ?_
  refine lr_sld F dL_law_618 (by omega) (by omega) ?_
  refine lr_aload_n F dL_law_619 rfl ?_
  refine lr_iload_n F dL_law_620 rfl ?_
  refine lr_iconst F dL_law_621 ?_
  refine lr_iadd F dL_law_622 ?_
  refine lr_sld F dL_law_623 (by omega) (by omega) ?_
  refine lr_aload_n F dL_law_624 rfl ?_
  refine lr_iload_n F dL_law_625 rfl ?_
  refine lr_iconst F dL_law_626 ?_
  refine lr_iadd F dL_law_627 ?_
  refine lr_sld F dL_law_628 (by omega) (by omega) ?_
  refine lr_aload_n F dL_law_629 rfl ?_
  refine lr_iload_n F dL_law_630 rfl ?_
  refine lr_iconst F dL_law_631 ?_
  refine lr_iadd F dL_law_632 ?_
  refine lr_sld F dL_law_633 (by omega) (by omega) ?_
  refine lr_aload_n F dL_law_634 rfl ?_
  refine lr_iload_n F dL_law_635 rfl ?_
  refine lr_iconst F dL_law_636 ?_
  refine lr_iadd F dL_law_637 ?_
  refine lr_sld F dL_law_638 (by omega) (by omega) ?_
  refine lr_cM (rest := _) (As := [iv (sx Y (i + 1)), iv (sx Y (i + 2)), iv (sx Y (i + 3)), iv (sx Y (i + 4)), iv (sx Y (i + 5))]) (q := (RX8, TX8, 34)) F dL_law_639 cv_L_53 (c_X8_letter (B := bm Y) (w := w.1) (m := w.2) hM g1 g3 s1 s2 s3 s4 s5) rfl rfl rfl ⟨(Nat.le_of_ble_eq_true rfl), (Nat.le_of_ble_eq_true rfl)⟩ rfl (Nat.le_of_ble_eq_true rfl) (fun v um hm => ?_)
  obtain ⟨rfl, rfl⟩ := hm
  exact lr_same F dL_law_642 (by decide) (k _ _ (INV_letter hw))
theorem op_9 {Y : Yc} (F : LF Y) {i : Int} (hi : 0 ≤ i) (hL : i + 7 ≤ yL Y) {w : W2} (hw : IX w.1 ∧ RM w.1 w.2) (k : ∀ a b : Wd, IX a ∧ RM a b → LW Y 1377 (Lv Y i) [] (a, b)) : LW Y 647 (Lv Y i) [] w := by
  have hLy : yL Y ≤ 3584 := F.2.2.2.2.2.2.2.2.2.2.2.2
  have hI := hw.1
  have hM := hw.2
  have g1 := hI.1.1
  have g3 := hI.2.2.1.1.1
  have g8 := hI.2.2.2.1.1.1
  have g18 := hI.2.2.2.2.2.1.1
  have g11 := hI.2.2.2.2.2.2.1.1
  have g14 := hI.2.2.2.2.2.2.1.2
  have g0 : 0 ≤ w.1 0 8 ∧ w.1 0 8 ≤ 10 := hI.2.2.2.2.1
  have s1 := sx_R Y (i + 1)
  have s2 := sx_R Y (i + 2)
  refine lr_aload_n F dL_law_647 rfl ?_
  refine lr_aload_n F dL_law_648 rfl ?_
  refine lr_iload_n F dL_law_649 rfl ?_
  refine lr_iconst F dL_law_650 ?_
  refine lr_iadd F dL_law_651 ?_
  refine lr_sld F dL_law_652 (by omega) (by omega) ?_
  refine lr_aload_n F dL_law_653 rfl ?_
  refine lr_iload_n F dL_law_654 rfl ?_
  refine lr_iconst F dL_law_655 ?_
  refine lr_iadd F dL_law_656 ?_
  refine lr_sld F dL_law_657 (by omega) (by omega) ?_
  refine lr_cX (rest := []) (As := [iv (sx Y (i + 1)), iv (sx Y (i + 2))]) (q := (RX7, TX7, 9)) F dL_law_658 cv_L_54 (c_X7_tied (B := bx Y) (w := w.1) g3 s1 s2) rfl rfl rfl ⟨(Nat.le_of_ble_eq_true rfl), (Nat.le_of_ble_eq_true rfl)⟩ rfl (Nat.le_of_ble_eq_true rfl) (fun v ux hx => ?_)
  obtain ⟨rfl, rfl⟩ := hx
  refine lr_aload_n F dL_law_661 rfl ?_
  refine lr_aload_n F dL_law_662 rfl ?_
  refine lr_iload_n F dL_law_663 rfl ?_
  refine lr_iconst F dL_law_664 ?_
  refine lr_iadd F dL_law_665 ?_
  refine lr_sld F dL_law_666 (by omega) (by omega) ?_
  refine lr_aload_n F dL_law_667 rfl ?_
  refine lr_iload_n F dL_law_668 rfl ?_
  refine lr_iconst F dL_law_669 ?_
  refine lr_iadd F dL_law_670 ?_
  refine lr_sld F dL_law_671 (by omega) (by omega) ?_
  refine lr_cM (rest := _) (As := [iv (sx Y (i + 1)), iv (sx Y (i + 2))]) (q := (RX8, TX8, 34)) F dL_law_672 cv_L_57 (c_X8_tied (B := bm Y) (w := w.1) (m := w.2) hM g3 s1 s2) rfl rfl rfl ⟨(Nat.le_of_ble_eq_true rfl), (Nat.le_of_ble_eq_true rfl)⟩ rfl (Nat.le_of_ble_eq_true rfl) (fun v um hm => ?_)
  obtain ⟨rfl, rfl⟩ := hm
  exact lr_same F dL_law_675 (by decide) (k _ _ hw)
theorem op_10 {Y : Yc} (F : LF Y) {i : Int} (hi : 0 ≤ i) (hL : i + 7 ≤ yL Y) {w : W2} (hw : IX w.1 ∧ RM w.1 w.2) (k : ∀ a b : Wd, IX a ∧ RM a b → LW Y 1377 (Lv Y i) [] (a, b)) : LW Y 680 (Lv Y i) [] w := by
  have hLy : yL Y ≤ 3584 := F.2.2.2.2.2.2.2.2.2.2.2.2
  have hI := hw.1
  have hM := hw.2
  have g1 := hI.1.1
  have g3 := hI.2.2.1.1.1
  have g8 := hI.2.2.2.1.1.1
  have g18 := hI.2.2.2.2.2.1.1
  have g11 := hI.2.2.2.2.2.2.1.1
  have g14 := hI.2.2.2.2.2.2.1.2
  have g0 : 0 ≤ w.1 0 8 ∧ w.1 0 8 ≤ 10 := hI.2.2.2.2.1
  refine lr_aload_n F dL_law_680 rfl ?_
  refine lr_cX (rest := []) (As := []) (q := (RX7, TX7, 9)) F dL_law_681 cv_L_58 (c_X7_undo (B := bx Y) (w := w.1) g3 (I5_q4 hI.2.2.1)) rfl rfl rfl ⟨(Nat.le_of_ble_eq_true rfl), (Nat.le_of_ble_eq_true rfl)⟩ rfl (Nat.le_of_ble_eq_true rfl) (fun v ux hx => ?_)
  obtain ⟨rfl, rfl⟩ := hx
  refine lr_aload_n F dL_law_684 rfl ?_
  refine lr_cM (rest := _) (As := []) (q := (RX8, TX8, 34)) F dL_law_685 cv_L_62 (c_X8_undo (B := bm Y) (w := w.1) (m := w.2) hM g3) rfl rfl rfl ⟨(Nat.le_of_ble_eq_true rfl), (Nat.le_of_ble_eq_true rfl)⟩ rfl (Nat.le_of_ble_eq_true rfl) (fun v um hm => ?_)
  obtain ⟨rfl, rfl⟩ := hm
  exact lr_same F dL_law_688 (by decide) (k _ _ (INV_undo hw))
theorem op_11 {Y : Yc} (F : LF Y) {i : Int} (hi : 0 ≤ i) (hL : i + 7 ≤ yL Y) {w : W2} (hw : IX w.1 ∧ RM w.1 w.2) (k : ∀ a b : Wd, IX a ∧ RM a b → LW Y 1377 (Lv Y i) [] (a, b)) : LW Y 693 (Lv Y i) [] w := by
  have hLy : yL Y ≤ 3584 := F.2.2.2.2.2.2.2.2.2.2.2.2
  have hI := hw.1
  have hM := hw.2
  have g1 := hI.1.1
  have g3 := hI.2.2.1.1.1
  have g8 := hI.2.2.2.1.1.1
  have g18 := hI.2.2.2.2.2.1.1
  have g11 := hI.2.2.2.2.2.2.1.1
  have g14 := hI.2.2.2.2.2.2.1.2
  have g0 : 0 ≤ w.1 0 8 ∧ w.1 0 8 ≤ 10 := hI.2.2.2.2.1
  have s1 := sx_R Y (i + 1)
  have s2 := sx_R Y (i + 2)
  refine lr_aload_n F dL_law_693 rfl ?_
  refine lr_aload_n F dL_law_694 rfl ?_
  refine lr_iload_n F dL_law_695 rfl ?_
  refine lr_iconst F dL_law_696 ?_
  refine lr_iadd F dL_law_697 ?_
  refine lr_sld F dL_law_698 (by omega) (by omega) ?_
  refine lr_i2l F dL_law_699 (sx_R Y _) ?_
  refine lr_bipush F dL_law_700 (by decide) ?_
  refine lr_lshl F dL_law_702 ?_
  refine lr_aload_n F dL_law_703 rfl ?_
  refine lr_iload_n F dL_law_704 rfl ?_
  refine lr_iconst F dL_law_705 ?_
  refine lr_iadd F dL_law_706 ?_
  refine lr_sld F dL_law_707 (by omega) (by omega) ?_
  refine lr_i2l F dL_law_708 (sx_R Y _) ?_
  refine lr_ldc2 (z := 4294967295) F dL_law_709 (tb_in 1303 (by decide +kernel) (by decide +kernel)) ?_
  refine lr_land F dL_law_712 ?_
  refine lr_lor F dL_law_713 ?_
  refine lr_tl ?_
  generalize hZ : Int64.toInt _ = Z
  refine lr_cX (rest := []) (As := [lq Z]) (q := (RX7, TX7, 9)) F dL_law_714 cv_L_65 (c_X7_letters (B := bx Y) (w := w.1) g18) rfl rfl rfl ⟨(Nat.le_of_ble_eq_true rfl), (Nat.le_of_ble_eq_true rfl)⟩ rfl (Nat.le_of_ble_eq_true rfl) (fun v ux hx => ?_)
  obtain ⟨rfl, rfl⟩ := hx
  refine lr_aload_n F dL_law_717 rfl ?_
  refine lr_aload_n F dL_law_718 rfl ?_
  refine lr_iload_n F dL_law_719 rfl ?_
  refine lr_iconst F dL_law_720 ?_
  refine lr_iadd F dL_law_721 ?_
  refine lr_sld F dL_law_722 (by omega) (by omega) ?_
  refine lr_i2l F dL_law_723 (sx_R Y _) ?_
  refine lr_bipush F dL_law_724 (by decide) ?_
  refine lr_lshl F dL_law_726 ?_
  refine lr_aload_n F dL_law_727 rfl ?_
  refine lr_iload_n F dL_law_728 rfl ?_
  refine lr_iconst F dL_law_729 ?_
  refine lr_iadd F dL_law_730 ?_
  refine lr_sld F dL_law_731 (by omega) (by omega) ?_
  refine lr_i2l F dL_law_732 (sx_R Y _) ?_
  refine lr_ldc2 (z := 4294967295) F dL_law_733 (tb_in 1303 (by decide +kernel) (by decide +kernel)) ?_
  refine lr_land F dL_law_736 ?_
  refine lr_lor F dL_law_737 ?_
  refine lr_tl ?_
  rw [hZ]
  refine lr_cM (rest := _) (As := [lq Z]) (q := (RX8, TX8, 34)) F dL_law_738 cv_L_69 (c_X8_letters (B := bm Y) (w := w.1) (m := w.2) hM g18) rfl rfl rfl ⟨(Nat.le_of_ble_eq_true rfl), (Nat.le_of_ble_eq_true rfl)⟩ rfl (Nat.le_of_ble_eq_true rfl) (fun v um hm => ?_)
  obtain ⟨rfl, rfl⟩ := hm
  exact lr_same F dL_law_741 (by decide) (k _ _ (INV_letters hw))
theorem op_12 {Y : Yc} (F : LF Y) {i : Int} (hi : 0 ≤ i) (hL : i + 7 ≤ yL Y) {w : W2} (hw : IX w.1 ∧ RM w.1 w.2) (k : ∀ a b : Wd, IX a ∧ RM a b → LW Y 1377 (Lv Y i) [] (a, b)) : LW Y 746 (Lv Y i) [] w := by
  have hLy : yL Y ≤ 3584 := F.2.2.2.2.2.2.2.2.2.2.2.2
  have hI := hw.1
  have hM := hw.2
  have g1 := hI.1.1
  have g3 := hI.2.2.1.1.1
  have g8 := hI.2.2.2.1.1.1
  have g18 := hI.2.2.2.2.2.1.1
  have g11 := hI.2.2.2.2.2.2.1.1
  have g14 := hI.2.2.2.2.2.2.1.2
  have g0 : 0 ≤ w.1 0 8 ∧ w.1 0 8 ≤ 10 := hI.2.2.2.2.1
  refine lr_aload_n F dL_law_746 rfl ?_
  refine lr_cX (rest := []) (As := []) (q := (RX7, TX7, 9)) F dL_law_747 cv_L_70 (c_X7_blank (B := bx Y) (w := w.1) ) rfl rfl rfl ⟨(Nat.le_of_ble_eq_true rfl), (Nat.le_of_ble_eq_true rfl)⟩ rfl (Nat.le_of_ble_eq_true rfl) (fun v ux hx => ?_)
  obtain ⟨rfl, rfl⟩ := hx
  refine lr_aload_n F dL_law_750 rfl ?_
  refine lr_cM (rest := _) (As := []) (q := (RX8, TX8, 34)) F dL_law_751 cv_L_73 (c_X8_blank (B := bm Y) (w := w.1) (m := w.2) hM) rfl rfl rfl ⟨(Nat.le_of_ble_eq_true rfl), (Nat.le_of_ble_eq_true rfl)⟩ rfl (Nat.le_of_ble_eq_true rfl) (fun v um hm => ?_)
  obtain ⟨rfl, rfl⟩ := hm
  exact lr_same F dL_law_754 (by decide) (k _ _ (INV_blank hw))
theorem op_13 {Y : Yc} (F : LF Y) {i : Int} (hi : 0 ≤ i) (hL : i + 7 ≤ yL Y) {w : W2} (hw : IX w.1 ∧ RM w.1 w.2) (k : ∀ a b : Wd, IX a ∧ RM a b → LW Y 1377 (Lv Y i) [] (a, b)) : LW Y 759 (Lv Y i) [] w := by
  have hLy : yL Y ≤ 3584 := F.2.2.2.2.2.2.2.2.2.2.2.2
  have hI := hw.1
  have hM := hw.2
  have g1 := hI.1.1
  have g3 := hI.2.2.1.1.1
  have g8 := hI.2.2.2.1.1.1
  have g18 := hI.2.2.2.2.2.1.1
  have g11 := hI.2.2.2.2.2.2.1.1
  have g14 := hI.2.2.2.2.2.2.1.2
  have g0 : 0 ≤ w.1 0 8 ∧ w.1 0 8 ≤ 10 := hI.2.2.2.2.1
  refine lr_aload_n F dL_law_759 rfl ?_
  refine lr_cX (rest := []) (As := []) (q := (RX7, TX7, 9)) F dL_law_760 cv_L_74 (c_X7_fault (B := bx Y) (w := w.1) g18) rfl rfl rfl ⟨(Nat.le_of_ble_eq_true rfl), (Nat.le_of_ble_eq_true rfl)⟩ rfl (Nat.le_of_ble_eq_true rfl) (fun v ux hx => ?_)
  obtain ⟨rx, rfl, hx⟩ := hx
  refine lr_aload_n F dL_law_763 rfl ?_
  refine lr_cM (rest := _) (As := []) (q := (RX8, TX8, 34)) F dL_law_764 cv_L_77 (c_X8_fault (B := bm Y) (w := w.1) (m := w.2) hM g18) rfl rfl rfl ⟨(Nat.le_of_ble_eq_true rfl), (Nat.le_of_ble_eq_true rfl)⟩ rfl (Nat.le_of_ble_eq_true rfl) (fun v um hm => ?_)
  obtain ⟨rfl, rfl⟩ := hm
  obtain ⟨rfl, hx⟩ := hx
  exact lr_same F dL_law_767 (by decide) (k _ _ (INV_fault hw hx))
theorem op_14_0 {Y : Yc} (F : LF Y) {i : Int} (hi : 0 ≤ i) (hL : i + 7 ≤ yL Y) {w : W2} (hw : IX w.1 ∧ RM w.1 w.2) (hs : sx Y (i + 1) = 0) (k : ∀ a b : Wd, IX a ∧ RM a b → LW Y 1377 (Lv Y i) [] (a, b)) : LW Y 772 (Lv Y i) [] w := by
  have hLy : yL Y ≤ 3584 := F.2.2.2.2.2.2.2.2.2.2.2.2
  have hI := hw.1
  have hM := hw.2
  have g1 := hI.1.1
  have g3 := hI.2.2.1.1.1
  have g8 := hI.2.2.2.1.1.1
  have g18 := hI.2.2.2.2.2.1.1
  have g11 := hI.2.2.2.2.2.2.1.1
  have g14 := hI.2.2.2.2.2.2.1.2
  have g0 : 0 ≤ w.1 0 8 ∧ w.1 0 8 ≤ 10 := hI.2.2.2.2.1
  have s1 := sx_R Y (i + 1)
  refine lr_aload_n F dL_law_772 rfl ?_
  refine lr_aload_n F dL_law_773 rfl ?_
  refine lr_iload_n F dL_law_774 rfl ?_
  refine lr_iconst F dL_law_775 ?_
  refine lr_iadd F dL_law_776 ?_
  refine lr_sld F dL_law_777 (by omega) (by omega) ?_
  rw [hs]
  refine lr_cX (rest := []) (As := [iv (0)]) (q := (RX7, TX7, 9)) F dL_law_778 cv_L_78 (c_X7_text_0 (B := bx Y) (w := w.1) g18 g11) rfl rfl rfl ⟨(Nat.le_of_ble_eq_true rfl), (Nat.le_of_ble_eq_true rfl)⟩ rfl (Nat.le_of_ble_eq_true rfl) (fun v ux hx => ?_)
  obtain ⟨rx, rfl, hx⟩ := hx
  refine lr_aload_n F dL_law_781 rfl ?_
  refine lr_aload_n F dL_law_782 rfl ?_
  refine lr_iload_n F dL_law_783 rfl ?_
  refine lr_iconst F dL_law_784 ?_
  refine lr_iadd F dL_law_785 ?_
  refine lr_sld F dL_law_786 (by omega) (by omega) ?_
  rw [hs]
  refine lr_cM (rest := _) (As := [iv (0)]) (q := (RX8, TX8, 34)) F dL_law_787 cv_L_82 (c_X8_text (B := bm Y) (w := w.1) (m := w.2) hM g11 g14 g18 (by omega)) rfl rfl rfl ⟨(Nat.le_of_ble_eq_true rfl), (Nat.le_of_ble_eq_true rfl)⟩ rfl (Nat.le_of_ble_eq_true rfl) (fun v um hm => ?_)
  obtain ⟨rfl, rfl⟩ := hm
  obtain ⟨rfl, hx⟩ := hx
  exact lr_same F dL_law_790 (by decide) (k _ _ (INV_text hw hx))
theorem op_14_1 {Y : Yc} (F : LF Y) {i : Int} (hi : 0 ≤ i) (hL : i + 7 ≤ yL Y) {w : W2} (hw : IX w.1 ∧ RM w.1 w.2) (hs : sx Y (i + 1) = 1) (k : ∀ a b : Wd, IX a ∧ RM a b → LW Y 1377 (Lv Y i) [] (a, b)) : LW Y 772 (Lv Y i) [] w := by
  have hLy : yL Y ≤ 3584 := F.2.2.2.2.2.2.2.2.2.2.2.2
  have hI := hw.1
  have hM := hw.2
  have g1 := hI.1.1
  have g3 := hI.2.2.1.1.1
  have g8 := hI.2.2.2.1.1.1
  have g18 := hI.2.2.2.2.2.1.1
  have g11 := hI.2.2.2.2.2.2.1.1
  have g14 := hI.2.2.2.2.2.2.1.2
  have g0 : 0 ≤ w.1 0 8 ∧ w.1 0 8 ≤ 10 := hI.2.2.2.2.1
  have s1 := sx_R Y (i + 1)
  refine lr_aload_n F dL_law_772 rfl ?_
  refine lr_aload_n F dL_law_773 rfl ?_
  refine lr_iload_n F dL_law_774 rfl ?_
  refine lr_iconst F dL_law_775 ?_
  refine lr_iadd F dL_law_776 ?_
  refine lr_sld F dL_law_777 (by omega) (by omega) ?_
  rw [hs]
  refine lr_cX (rest := []) (As := [iv (1)]) (q := (RX7, TX7, 9)) F dL_law_778 cv_L_78 (c_X7_text_1 (B := bx Y) (w := w.1) g18 g14) rfl rfl rfl ⟨(Nat.le_of_ble_eq_true rfl), (Nat.le_of_ble_eq_true rfl)⟩ rfl (Nat.le_of_ble_eq_true rfl) (fun v ux hx => ?_)
  obtain ⟨rx, rfl, hx⟩ := hx
  refine lr_aload_n F dL_law_781 rfl ?_
  refine lr_aload_n F dL_law_782 rfl ?_
  refine lr_iload_n F dL_law_783 rfl ?_
  refine lr_iconst F dL_law_784 ?_
  refine lr_iadd F dL_law_785 ?_
  refine lr_sld F dL_law_786 (by omega) (by omega) ?_
  rw [hs]
  refine lr_cM (rest := _) (As := [iv (1)]) (q := (RX8, TX8, 34)) F dL_law_787 cv_L_82 (c_X8_text (B := bm Y) (w := w.1) (m := w.2) hM g11 g14 g18 (by omega)) rfl rfl rfl ⟨(Nat.le_of_ble_eq_true rfl), (Nat.le_of_ble_eq_true rfl)⟩ rfl (Nat.le_of_ble_eq_true rfl) (fun v um hm => ?_)
  obtain ⟨rfl, rfl⟩ := hm
  obtain ⟨rfl, hx⟩ := hx
  exact lr_same F dL_law_790 (by decide) (k _ _ (INV_text hw hx))
theorem op_14_n {Y : Yc} (F : LF Y) {i : Int} (hi : 0 ≤ i) (hL : i + 7 ≤ yL Y) {w : W2} (hw : IX w.1 ∧ RM w.1 w.2) (hs : ¬ (sx Y (i + 1) = 0 ∨ sx Y (i + 1) = 1)) (k : ∀ a b : Wd, IX a ∧ RM a b → LW Y 1377 (Lv Y i) [] (a, b)) : LW Y 772 (Lv Y i) [] w := by
  have hLy : yL Y ≤ 3584 := F.2.2.2.2.2.2.2.2.2.2.2.2
  have hI := hw.1
  have hM := hw.2
  have g1 := hI.1.1
  have g3 := hI.2.2.1.1.1
  have g8 := hI.2.2.2.1.1.1
  have g18 := hI.2.2.2.2.2.1.1
  have g11 := hI.2.2.2.2.2.2.1.1
  have g14 := hI.2.2.2.2.2.2.1.2
  have g0 : 0 ≤ w.1 0 8 ∧ w.1 0 8 ≤ 10 := hI.2.2.2.2.1
  have s1 := sx_R Y (i + 1)
  refine lr_aload_n F dL_law_772 rfl ?_
  refine lr_aload_n F dL_law_773 rfl ?_
  refine lr_iload_n F dL_law_774 rfl ?_
  refine lr_iconst F dL_law_775 ?_
  refine lr_iadd F dL_law_776 ?_
  refine lr_sld F dL_law_777 (by omega) (by omega) ?_
  refine lr_cX (rest := []) (As := [iv (sx Y (i + 1))]) (q := (RX7, TX7, 9)) F dL_law_778 cv_L_78 (c_X7_text_n (B := bx Y) (w := w.1) s1 hs) rfl rfl rfl ⟨(Nat.le_of_ble_eq_true rfl), (Nat.le_of_ble_eq_true rfl)⟩ rfl (Nat.le_of_ble_eq_true rfl) (fun v ux hx => ?_)
  obtain ⟨rx, rfl, hx⟩ := hx
  refine lr_aload_n F dL_law_781 rfl ?_
  refine lr_aload_n F dL_law_782 rfl ?_
  refine lr_iload_n F dL_law_783 rfl ?_
  refine lr_iconst F dL_law_784 ?_
  refine lr_iadd F dL_law_785 ?_
  refine lr_sld F dL_law_786 (by omega) (by omega) ?_
  refine lr_cM (rest := _) (As := [iv (sx Y (i + 1))]) (q := (RX8, TX8, 34)) F dL_law_787 cv_L_82 (c_X8_text (B := bm Y) (w := w.1) (m := w.2) hM g11 g14 g18 s1) rfl rfl rfl ⟨(Nat.le_of_ble_eq_true rfl), (Nat.le_of_ble_eq_true rfl)⟩ rfl (Nat.le_of_ble_eq_true rfl) (fun v um hm => ?_)
  obtain ⟨rfl, rfl⟩ := hm
  obtain ⟨rfl, hx⟩ := hx
  exact lr_same F dL_law_790 (by decide) (k _ _ (INV_text hw hx))
theorem op_15_0 {Y : Yc} (F : LF Y) {i : Int} (hi : 0 ≤ i) (hL : i + 7 ≤ yL Y) {w : W2} (hw : IX w.1 ∧ RM w.1 w.2) (hs : sx Y (i + 1) = 0) (k : ∀ a b : Wd, IX a ∧ RM a b → LW Y 1377 (Lv Y i) [] (a, b)) : LW Y 795 (Lv Y i) [] w := by
  have hLy : yL Y ≤ 3584 := F.2.2.2.2.2.2.2.2.2.2.2.2
  have hI := hw.1
  have hM := hw.2
  have g1 := hI.1.1
  have g3 := hI.2.2.1.1.1
  have g8 := hI.2.2.2.1.1.1
  have g18 := hI.2.2.2.2.2.1.1
  have g11 := hI.2.2.2.2.2.2.1.1
  have g14 := hI.2.2.2.2.2.2.1.2
  have g0 : 0 ≤ w.1 0 8 ∧ w.1 0 8 ≤ 10 := hI.2.2.2.2.1
  have s1 := sx_R Y (i + 1)
  refine lr_aload_n F dL_law_795 rfl ?_
  refine lr_aload_n F dL_law_796 rfl ?_
  refine lr_iload_n F dL_law_797 rfl ?_
  refine lr_iconst F dL_law_798 ?_
  refine lr_iadd F dL_law_799 ?_
  refine lr_sld F dL_law_800 (by omega) (by omega) ?_
  rw [hs]
  refine lr_cX (rest := []) (As := [iv (0)]) (q := (RX7, TX7, 9)) F dL_law_801 cv_L_83 (c_X7_strike_0 (B := bx Y) (w := w.1) g11) rfl rfl rfl ⟨(Nat.le_of_ble_eq_true rfl), (Nat.le_of_ble_eq_true rfl)⟩ rfl (Nat.le_of_ble_eq_true rfl) (fun v ux hx => ?_)
  obtain ⟨rfl, rfl⟩ := hx
  refine lr_aload_n F dL_law_804 rfl ?_
  refine lr_aload_n F dL_law_805 rfl ?_
  refine lr_iload_n F dL_law_806 rfl ?_
  refine lr_iconst F dL_law_807 ?_
  refine lr_iadd F dL_law_808 ?_
  refine lr_sld F dL_law_809 (by omega) (by omega) ?_
  rw [hs]
  refine lr_cM (rest := _) (As := [iv (0)]) (q := (RX8, TX8, 34)) F dL_law_810 cv_L_86 (c_X8_strike (B := bm Y) (w := w.1) (m := w.2) hM g11 g14 (by omega)) rfl rfl rfl ⟨(Nat.le_of_ble_eq_true rfl), (Nat.le_of_ble_eq_true rfl)⟩ rfl (Nat.le_of_ble_eq_true rfl) (fun v um hm => ?_)
  obtain ⟨rfl, rfl⟩ := hm
  exact lr_same F dL_law_813 (by decide) (k _ _ (INV_strike_0 hw))
theorem op_15_1 {Y : Yc} (F : LF Y) {i : Int} (hi : 0 ≤ i) (hL : i + 7 ≤ yL Y) {w : W2} (hw : IX w.1 ∧ RM w.1 w.2) (hs : sx Y (i + 1) = 1) (k : ∀ a b : Wd, IX a ∧ RM a b → LW Y 1377 (Lv Y i) [] (a, b)) : LW Y 795 (Lv Y i) [] w := by
  have hLy : yL Y ≤ 3584 := F.2.2.2.2.2.2.2.2.2.2.2.2
  have hI := hw.1
  have hM := hw.2
  have g1 := hI.1.1
  have g3 := hI.2.2.1.1.1
  have g8 := hI.2.2.2.1.1.1
  have g18 := hI.2.2.2.2.2.1.1
  have g11 := hI.2.2.2.2.2.2.1.1
  have g14 := hI.2.2.2.2.2.2.1.2
  have g0 : 0 ≤ w.1 0 8 ∧ w.1 0 8 ≤ 10 := hI.2.2.2.2.1
  have s1 := sx_R Y (i + 1)
  refine lr_aload_n F dL_law_795 rfl ?_
  refine lr_aload_n F dL_law_796 rfl ?_
  refine lr_iload_n F dL_law_797 rfl ?_
  refine lr_iconst F dL_law_798 ?_
  refine lr_iadd F dL_law_799 ?_
  refine lr_sld F dL_law_800 (by omega) (by omega) ?_
  rw [hs]
  refine lr_cX (rest := []) (As := [iv (1)]) (q := (RX7, TX7, 9)) F dL_law_801 cv_L_83 (c_X7_strike_1 (B := bx Y) (w := w.1) g14) rfl rfl rfl ⟨(Nat.le_of_ble_eq_true rfl), (Nat.le_of_ble_eq_true rfl)⟩ rfl (Nat.le_of_ble_eq_true rfl) (fun v ux hx => ?_)
  obtain ⟨rfl, rfl⟩ := hx
  refine lr_aload_n F dL_law_804 rfl ?_
  refine lr_aload_n F dL_law_805 rfl ?_
  refine lr_iload_n F dL_law_806 rfl ?_
  refine lr_iconst F dL_law_807 ?_
  refine lr_iadd F dL_law_808 ?_
  refine lr_sld F dL_law_809 (by omega) (by omega) ?_
  rw [hs]
  refine lr_cM (rest := _) (As := [iv (1)]) (q := (RX8, TX8, 34)) F dL_law_810 cv_L_86 (c_X8_strike (B := bm Y) (w := w.1) (m := w.2) hM g11 g14 (by omega)) rfl rfl rfl ⟨(Nat.le_of_ble_eq_true rfl), (Nat.le_of_ble_eq_true rfl)⟩ rfl (Nat.le_of_ble_eq_true rfl) (fun v um hm => ?_)
  obtain ⟨rfl, rfl⟩ := hm
  exact lr_same F dL_law_813 (by decide) (k _ _ (INV_strike_1 hw))
theorem op_15_n {Y : Yc} (F : LF Y) {i : Int} (hi : 0 ≤ i) (hL : i + 7 ≤ yL Y) {w : W2} (hw : IX w.1 ∧ RM w.1 w.2) (hs : ¬ (sx Y (i + 1) = 0 ∨ sx Y (i + 1) = 1)) (k : ∀ a b : Wd, IX a ∧ RM a b → LW Y 1377 (Lv Y i) [] (a, b)) : LW Y 795 (Lv Y i) [] w := by
  have hLy : yL Y ≤ 3584 := F.2.2.2.2.2.2.2.2.2.2.2.2
  have hI := hw.1
  have hM := hw.2
  have g1 := hI.1.1
  have g3 := hI.2.2.1.1.1
  have g8 := hI.2.2.2.1.1.1
  have g18 := hI.2.2.2.2.2.1.1
  have g11 := hI.2.2.2.2.2.2.1.1
  have g14 := hI.2.2.2.2.2.2.1.2
  have g0 : 0 ≤ w.1 0 8 ∧ w.1 0 8 ≤ 10 := hI.2.2.2.2.1
  have s1 := sx_R Y (i + 1)
  refine lr_aload_n F dL_law_795 rfl ?_
  refine lr_aload_n F dL_law_796 rfl ?_
  refine lr_iload_n F dL_law_797 rfl ?_
  refine lr_iconst F dL_law_798 ?_
  refine lr_iadd F dL_law_799 ?_
  refine lr_sld F dL_law_800 (by omega) (by omega) ?_
  refine lr_cX (rest := []) (As := [iv (sx Y (i + 1))]) (q := (RX7, TX7, 9)) F dL_law_801 cv_L_83 (c_X7_strike_n (B := bx Y) (w := w.1) s1 hs) rfl rfl rfl ⟨(Nat.le_of_ble_eq_true rfl), (Nat.le_of_ble_eq_true rfl)⟩ rfl (Nat.le_of_ble_eq_true rfl) (fun v ux hx => ?_)
  obtain ⟨rfl, rfl⟩ := hx
  refine lr_aload_n F dL_law_804 rfl ?_
  refine lr_aload_n F dL_law_805 rfl ?_
  refine lr_iload_n F dL_law_806 rfl ?_
  refine lr_iconst F dL_law_807 ?_
  refine lr_iadd F dL_law_808 ?_
  refine lr_sld F dL_law_809 (by omega) (by omega) ?_
  refine lr_cM (rest := _) (As := [iv (sx Y (i + 1))]) (q := (RX8, TX8, 34)) F dL_law_810 cv_L_86 (c_X8_strike (B := bm Y) (w := w.1) (m := w.2) hM g11 g14 s1) rfl rfl rfl ⟨(Nat.le_of_ble_eq_true rfl), (Nat.le_of_ble_eq_true rfl)⟩ rfl (Nat.le_of_ble_eq_true rfl) (fun v um hm => ?_)
  obtain ⟨rfl, rfl⟩ := hm
  exact lr_same F dL_law_813 (by decide) (k _ _ (INV_strike_n hw hs))
theorem op_16 {Y : Yc} (F : LF Y) {i : Int} (hi : 0 ≤ i) (hL : i + 7 ≤ yL Y) {w : W2} (hw : IX w.1 ∧ RM w.1 w.2) (k : ∀ a b : Wd, IX a ∧ RM a b → LW Y 1377 (Lv Y i) [] (a, b)) : LW Y 818 (Lv Y i) [] w := by
  have hLy : yL Y ≤ 3584 := F.2.2.2.2.2.2.2.2.2.2.2.2
  have hI := hw.1
  have hM := hw.2
  have g1 := hI.1.1
  have g3 := hI.2.2.1.1.1
  have g8 := hI.2.2.2.1.1.1
  have g18 := hI.2.2.2.2.2.1.1
  have g11 := hI.2.2.2.2.2.2.1.1
  have g14 := hI.2.2.2.2.2.2.1.2
  have g0 : 0 ≤ w.1 0 8 ∧ w.1 0 8 ≤ 10 := hI.2.2.2.2.1
  have s1 := sx_R Y (i + 1)
  have s2 := sx_R Y (i + 2)
  refine lr_aload_n F dL_law_818 rfl ?_
  refine lr_aload_n F dL_law_819 rfl ?_
  refine lr_iload_n F dL_law_820 rfl ?_
  refine lr_iconst F dL_law_821 ?_
  refine lr_iadd F dL_law_822 ?_
  refine lr_sld F dL_law_823 (by omega) (by omega) ?_
  refine lr_aload_n F dL_law_824 rfl ?_
  refine lr_iload_n F dL_law_825 rfl ?_
  refine lr_iconst F dL_law_826 ?_
  refine lr_iadd F dL_law_827 ?_
  refine lr_sld F dL_law_828 (by omega) (by omega) ?_
  refine lr_cX (rest := []) (As := [iv (sx Y (i + 1)), iv (sx Y (i + 2))]) (q := (RX7, TX7, 9)) F dL_law_829 cv_L_87 (c_X7_counts (B := bx Y) (w := w.1) (IX_SOK hI) g1.2 s1 s2) rfl rfl rfl ⟨(Nat.le_of_ble_eq_true rfl), (Nat.le_of_ble_eq_true rfl)⟩ rfl (Nat.le_of_ble_eq_true rfl) (fun v ux hx => ?_)
  obtain ⟨rx, rfl, hx⟩ := hx
  refine lr_aload_n F dL_law_832 rfl ?_
  refine lr_aload_n F dL_law_833 rfl ?_
  refine lr_iload_n F dL_law_834 rfl ?_
  refine lr_iconst F dL_law_835 ?_
  refine lr_iadd F dL_law_836 ?_
  refine lr_sld F dL_law_837 (by omega) (by omega) ?_
  refine lr_aload_n F dL_law_838 rfl ?_
  refine lr_iload_n F dL_law_839 rfl ?_
  refine lr_iconst F dL_law_840 ?_
  refine lr_iadd F dL_law_841 ?_
  refine lr_sld F dL_law_842 (by omega) (by omega) ?_
  refine lr_cM (rest := _) (As := [iv (sx Y (i + 1)), iv (sx Y (i + 2))]) (q := (RX8, TX8, 34)) F dL_law_843 cv_L_90 (c_X8_counts (B := bm Y) (w := w.1) (m := w.2) hM g1 g3 g11 g14 hI.2.2.2.2.2.2.2.2.2 s1 s2) rfl rfl rfl ⟨(Nat.le_of_ble_eq_true rfl), (Nat.le_of_ble_eq_true rfl)⟩ rfl (Nat.le_of_ble_eq_true rfl) (fun v um hm => ?_)
  obtain ⟨rm, rfl, hm⟩ := hm
  obtain ⟨rfl, hx⟩ := hx
  obtain ⟨rfl, hm⟩ := hm
  exact lr_same F dL_law_846 (by decide) (k _ _ (INV_q hw hx (wk_sm hm)))
theorem op_17 {Y : Yc} (F : LF Y) {i : Int} (hi : 0 ≤ i) (hL : i + 7 ≤ yL Y) {w : W2} (hw : IX w.1 ∧ RM w.1 w.2) (k : ∀ a b : Wd, IX a ∧ RM a b → LW Y 1377 (Lv Y i) [] (a, b)) : LW Y 851 (Lv Y i) [] w := by
  have hLy : yL Y ≤ 3584 := F.2.2.2.2.2.2.2.2.2.2.2.2
  have hI := hw.1
  have hM := hw.2
  have g1 := hI.1.1
  have g3 := hI.2.2.1.1.1
  have g8 := hI.2.2.2.1.1.1
  have g18 := hI.2.2.2.2.2.1.1
  have g11 := hI.2.2.2.2.2.2.1.1
  have g14 := hI.2.2.2.2.2.2.1.2
  have g0 : 0 ≤ w.1 0 8 ∧ w.1 0 8 ≤ 10 := hI.2.2.2.2.1
  have s1 := sx_R Y (i + 1)
  have s2 := sx_R Y (i + 2)
  refine lr_aload_n F dL_law_851 rfl ?_
  refine lr_aload_n F dL_law_852 rfl ?_
  refine lr_iload_n F dL_law_853 rfl ?_
  refine lr_iconst F dL_law_854 ?_
  refine lr_iadd F dL_law_855 ?_
  refine lr_sld F dL_law_856 (by omega) (by omega) ?_
  refine lr_aload_n F dL_law_857 rfl ?_
  refine lr_iload_n F dL_law_858 rfl ?_
  refine lr_iconst F dL_law_859 ?_
  refine lr_iadd F dL_law_860 ?_
  refine lr_sld F dL_law_861 (by omega) (by omega) ?_
  refine lr_cX (rest := []) (As := [iv (sx Y (i + 1)), iv (sx Y (i + 2))]) (q := (RX7, TX7, 9)) F dL_law_862 cv_L_91 (c_X7_believes (B := bx Y) (w := w.1) (IX_SOK hI) g3.2 s1 s2) rfl rfl rfl ⟨(Nat.le_of_ble_eq_true rfl), (Nat.le_of_ble_eq_true rfl)⟩ rfl (Nat.le_of_ble_eq_true rfl) (fun v ux hx => ?_)
  obtain ⟨rx, rfl, hx⟩ := hx
  refine lr_aload_n F dL_law_865 rfl ?_
  refine lr_aload_n F dL_law_866 rfl ?_
  refine lr_iload_n F dL_law_867 rfl ?_
  refine lr_iconst F dL_law_868 ?_
  refine lr_iadd F dL_law_869 ?_
  refine lr_sld F dL_law_870 (by omega) (by omega) ?_
  refine lr_aload_n F dL_law_871 rfl ?_
  refine lr_iload_n F dL_law_872 rfl ?_
  refine lr_iconst F dL_law_873 ?_
  refine lr_iadd F dL_law_874 ?_
  refine lr_sld F dL_law_875 (by omega) (by omega) ?_
  refine lr_cM (rest := _) (As := [iv (sx Y (i + 1)), iv (sx Y (i + 2))]) (q := (RX8, TX8, 34)) F dL_law_876 cv_L_94 (c_X8_believes (B := bm Y) (w := w.1) (m := w.2) hM g1 g3 g11 g14 hI.2.2.2.2.2.2.2.2.2 (I5_q1 hI) s1 s2) rfl rfl rfl ⟨(Nat.le_of_ble_eq_true rfl), (Nat.le_of_ble_eq_true rfl)⟩ rfl (Nat.le_of_ble_eq_true rfl) (fun v um hm => ?_)
  obtain ⟨rm, rfl, hm⟩ := hm
  obtain ⟨rfl, hx⟩ := hx
  obtain ⟨rfl, hm⟩ := hm
  exact lr_same F dL_law_879 (by decide) (k _ _ (INV_q hw hx (wk_sm hm)))
theorem op_18 {Y : Yc} (F : LF Y) {i : Int} (hi : 0 ≤ i) (hL : i + 7 ≤ yL Y) {w : W2} (hw : IX w.1 ∧ RM w.1 w.2) (k : ∀ a b : Wd, IX a ∧ RM a b → LW Y 1377 (Lv Y i) [] (a, b)) : LW Y 884 (Lv Y i) [] w := by
  have hLy : yL Y ≤ 3584 := F.2.2.2.2.2.2.2.2.2.2.2.2
  have hI := hw.1
  have hM := hw.2
  have g1 := hI.1.1
  have g3 := hI.2.2.1.1.1
  have g8 := hI.2.2.2.1.1.1
  have g18 := hI.2.2.2.2.2.1.1
  have g11 := hI.2.2.2.2.2.2.1.1
  have g14 := hI.2.2.2.2.2.2.1.2
  have g0 : 0 ≤ w.1 0 8 ∧ w.1 0 8 ≤ 10 := hI.2.2.2.2.1
  have s1 := sx_R Y (i + 1)
  have s2 := sx_R Y (i + 2)
  refine lr_aload_n F dL_law_884 rfl ?_
  refine lr_aload_n F dL_law_885 rfl ?_
  refine lr_iload_n F dL_law_886 rfl ?_
  refine lr_iconst F dL_law_887 ?_
  refine lr_iadd F dL_law_888 ?_
  refine lr_sld F dL_law_889 (by omega) (by omega) ?_
  refine lr_aload_n F dL_law_890 rfl ?_
  refine lr_iload_n F dL_law_891 rfl ?_
  refine lr_iconst F dL_law_892 ?_
  refine lr_iadd F dL_law_893 ?_
  refine lr_sld F dL_law_894 (by omega) (by omega) ?_
  refine lr_cX (rest := []) (As := [iv (sx Y (i + 1)), iv (sx Y (i + 2))]) (q := (RX7, TX7, 9)) F dL_law_895 cv_L_95 (c_X7_can (B := bx Y) (w := w.1) (IX_QI hI) s1 s2) rfl rfl rfl ⟨(Nat.le_of_ble_eq_true rfl), (Nat.le_of_ble_eq_true rfl)⟩ rfl (Nat.le_of_ble_eq_true rfl) (fun v ux hx => ?_)
  obtain ⟨rx, rfl, hx⟩ := hx
  refine lr_aload_n F dL_law_898 rfl ?_
  refine lr_aload_n F dL_law_899 rfl ?_
  refine lr_iload_n F dL_law_900 rfl ?_
  refine lr_iconst F dL_law_901 ?_
  refine lr_iadd F dL_law_902 ?_
  refine lr_sld F dL_law_903 (by omega) (by omega) ?_
  refine lr_aload_n F dL_law_904 rfl ?_
  refine lr_iload_n F dL_law_905 rfl ?_
  refine lr_iconst F dL_law_906 ?_
  refine lr_iadd F dL_law_907 ?_
  refine lr_sld F dL_law_908 (by omega) (by omega) ?_
  refine lr_cM (rest := _) (As := [iv (sx Y (i + 1)), iv (sx Y (i + 2))]) (q := (RX8, TX8, 34)) F dL_law_909 cv_L_98 (c_X8_can (B := bm Y) (w := w.1) (m := w.2) hM (IX_IM hI) s1 s2) rfl rfl rfl ⟨(Nat.le_of_ble_eq_true rfl), (Nat.le_of_ble_eq_true rfl)⟩ rfl (Nat.le_of_ble_eq_true rfl) (fun v um hm => ?_)
  obtain ⟨rm, rfl, hm⟩ := hm
  obtain ⟨rfl, hx⟩ := hx
  obtain ⟨rfl, hm⟩ := hm
  exact lr_same F dL_law_912 (by decide) (k _ _ (INV_q hw hx (hm.1)))
theorem op_19 {Y : Yc} (F : LF Y) {i : Int} (hi : 0 ≤ i) (hL : i + 7 ≤ yL Y) {w : W2} (hw : IX w.1 ∧ RM w.1 w.2) (k : ∀ a b : Wd, IX a ∧ RM a b → LW Y 1377 (Lv Y i) [] (a, b)) : LW Y 917 (Lv Y i) [] w := by
  have hLy : yL Y ≤ 3584 := F.2.2.2.2.2.2.2.2.2.2.2.2
  have hI := hw.1
  have hM := hw.2
  have g1 := hI.1.1
  have g3 := hI.2.2.1.1.1
  have g8 := hI.2.2.2.1.1.1
  have g18 := hI.2.2.2.2.2.1.1
  have g11 := hI.2.2.2.2.2.2.1.1
  have g14 := hI.2.2.2.2.2.2.1.2
  have g0 : 0 ≤ w.1 0 8 ∧ w.1 0 8 ≤ 10 := hI.2.2.2.2.1
  have s1 := sx_R Y (i + 1)
  have s2 := sx_R Y (i + 2)
  have s3 := sx_R Y (i + 3)
  have s4 := sx_R Y (i + 4)
  refine lr_aload_n F dL_law_917 rfl ?_
  refine lr_aload_n F dL_law_918 rfl ?_
  refine lr_iload_n F dL_law_919 rfl ?_
  refine lr_iconst F dL_law_920 ?_
  refine lr_iadd F dL_law_921 ?_
  refine lr_sld F dL_law_922 (by omega) (by omega) ?_
  refine lr_aload_n F dL_law_923 rfl ?_
  refine lr_iload_n F dL_law_924 rfl ?_
  refine lr_iconst F dL_law_925 ?_
  refine lr_iadd F dL_law_926 ?_
  refine lr_sld F dL_law_927 (by omega) (by omega) ?_
  refine lr_aload_n F dL_law_928 rfl ?_
  refine lr_iload_n F dL_law_929 rfl ?_
  refine lr_iconst F dL_law_930 ?_
  refine lr_iadd F dL_law_931 ?_
  refine lr_sld F dL_law_932 (by omega) (by omega) ?_
  refine lr_aload_n F dL_law_933 rfl ?_
  refine lr_iload_n F dL_law_934 rfl ?_
  refine lr_iconst F dL_law_935 ?_
  refine lr_iadd F dL_law_936 ?_
  refine lr_sld F dL_law_937 (by omega) (by omega) ?_
  refine lr_cX (rest := []) (As := [iv (sx Y (i + 1)), iv (sx Y (i + 2)), iv (sx Y (i + 3)), iv (sx Y (i + 4))]) (q := (RX7, TX7, 9)) F dL_law_938 cv_L_99 (c_X7_span (B := bx Y) (w := w.1) (IX_QI hI) s1 s2 s3 s4) rfl rfl rfl ⟨(Nat.le_of_ble_eq_true rfl), (Nat.le_of_ble_eq_true rfl)⟩ rfl (Nat.le_of_ble_eq_true rfl) (fun v ux hx => ?_)
  obtain ⟨rx, rfl, hx⟩ := hx
  refine lr_aload_n F dL_law_941 rfl ?_
  refine lr_aload_n F dL_law_942 rfl ?_
  refine lr_iload_n F dL_law_943 rfl ?_
  refine lr_iconst F dL_law_944 ?_
  refine lr_iadd F dL_law_945 ?_
  refine lr_sld F dL_law_946 (by omega) (by omega) ?_
  refine lr_aload_n F dL_law_947 rfl ?_
  refine lr_iload_n F dL_law_948 rfl ?_
  refine lr_iconst F dL_law_949 ?_
  refine lr_iadd F dL_law_950 ?_
  refine lr_sld F dL_law_951 (by omega) (by omega) ?_
  refine lr_aload_n F dL_law_952 rfl ?_
  refine lr_iload_n F dL_law_953 rfl ?_
  refine lr_iconst F dL_law_954 ?_
  refine lr_iadd F dL_law_955 ?_
  refine lr_sld F dL_law_956 (by omega) (by omega) ?_
  refine lr_aload_n F dL_law_957 rfl ?_
  refine lr_iload_n F dL_law_958 rfl ?_
  refine lr_iconst F dL_law_959 ?_
  refine lr_iadd F dL_law_960 ?_
  refine lr_sld F dL_law_961 (by omega) (by omega) ?_
  refine lr_cM (rest := _) (As := [iv (sx Y (i + 1)), iv (sx Y (i + 2)), iv (sx Y (i + 3)), iv (sx Y (i + 4))]) (q := (RX8, TX8, 34)) F dL_law_962 cv_L_102 (c_X8_span (B := bm Y) (w := w.1) (m := w.2) hM (IX_IM hI) s1 s2 s3 s4) rfl rfl rfl ⟨(Nat.le_of_ble_eq_true rfl), (Nat.le_of_ble_eq_true rfl)⟩ rfl (Nat.le_of_ble_eq_true rfl) (fun v um hm => ?_)
  obtain ⟨rm, rfl, hm⟩ := hm
  obtain ⟨rfl, hx⟩ := hx
  obtain ⟨rfl, hm⟩ := hm
  exact lr_same F dL_law_965 (by decide) (k _ _ (INV_q hw hx (hm.1)))
theorem op_20 {Y : Yc} (F : LF Y) {i : Int} (hi : 0 ≤ i) (hL : i + 7 ≤ yL Y) {w : W2} (hw : IX w.1 ∧ RM w.1 w.2) (k : ∀ a b : Wd, IX a ∧ RM a b → LW Y 1377 (Lv Y i) [] (a, b)) : LW Y 970 (Lv Y i) [] w := by
  have hLy : yL Y ≤ 3584 := F.2.2.2.2.2.2.2.2.2.2.2.2
  have hI := hw.1
  have hM := hw.2
  have g1 := hI.1.1
  have g3 := hI.2.2.1.1.1
  have g8 := hI.2.2.2.1.1.1
  have g18 := hI.2.2.2.2.2.1.1
  have g11 := hI.2.2.2.2.2.2.1.1
  have g14 := hI.2.2.2.2.2.2.1.2
  have g0 : 0 ≤ w.1 0 8 ∧ w.1 0 8 ≤ 10 := hI.2.2.2.2.1
  have s1 := sx_R Y (i + 1)
  have s2 := sx_R Y (i + 2)
  have s3 := sx_R Y (i + 3)
  have s4 := sx_R Y (i + 4)
  refine lr_aload_n F dL_law_970 rfl ?_
  refine lr_aload_n F dL_law_971 rfl ?_
  refine lr_iload_n F dL_law_972 rfl ?_
  refine lr_iconst F dL_law_973 ?_
  refine lr_iadd F dL_law_974 ?_
  refine lr_sld F dL_law_975 (by omega) (by omega) ?_
  refine lr_aload_n F dL_law_976 rfl ?_
  refine lr_iload_n F dL_law_977 rfl ?_
  refine lr_iconst F dL_law_978 ?_
  refine lr_iadd F dL_law_979 ?_
  refine lr_sld F dL_law_980 (by omega) (by omega) ?_
  refine lr_aload_n F dL_law_981 rfl ?_
  refine lr_iload_n F dL_law_982 rfl ?_
  refine lr_iconst F dL_law_983 ?_
  refine lr_iadd F dL_law_984 ?_
  refine lr_sld F dL_law_985 (by omega) (by omega) ?_
  refine lr_aload_n F dL_law_986 rfl ?_
  refine lr_iload_n F dL_law_987 rfl ?_
  refine lr_iconst F dL_law_988 ?_
  refine lr_iadd F dL_law_989 ?_
  refine lr_sld F dL_law_990 (by omega) (by omega) ?_
  refine lr_cX (rest := []) (As := [iv (sx Y (i + 1)), iv (sx Y (i + 2)), iv (sx Y (i + 3)), iv (sx Y (i + 4))]) (q := (RX7, TX7, 9)) F dL_law_991 cv_L_103 (c_X7_held (B := bx Y) (w := w.1) (IX_QI hI) s1 s2 s3 s4) rfl rfl rfl ⟨(Nat.le_of_ble_eq_true rfl), (Nat.le_of_ble_eq_true rfl)⟩ rfl (Nat.le_of_ble_eq_true rfl) (fun v ux hx => ?_)
  obtain ⟨rx, rfl, hx⟩ := hx
  refine lr_aload_n F dL_law_994 rfl ?_
  refine lr_aload_n F dL_law_995 rfl ?_
  refine lr_iload_n F dL_law_996 rfl ?_
  refine lr_iconst F dL_law_997 ?_
  refine lr_iadd F dL_law_998 ?_
  refine lr_sld F dL_law_999 (by omega) (by omega) ?_
  refine lr_aload_n F dL_law_1000 rfl ?_
  refine lr_iload_n F dL_law_1001 rfl ?_
  refine lr_iconst F dL_law_1002 ?_
  refine lr_iadd F dL_law_1003 ?_
  refine lr_sld F dL_law_1004 (by omega) (by omega) ?_
  refine lr_aload_n F dL_law_1005 rfl ?_
  refine lr_iload_n F dL_law_1006 rfl ?_
  refine lr_iconst F dL_law_1007 ?_
  refine lr_iadd F dL_law_1008 ?_
  refine lr_sld F dL_law_1009 (by omega) (by omega) ?_
  refine lr_aload_n F dL_law_1010 rfl ?_
  refine lr_iload_n F dL_law_1011 rfl ?_
  refine lr_iconst F dL_law_1012 ?_
  refine lr_iadd F dL_law_1013 ?_
  refine lr_sld F dL_law_1014 (by omega) (by omega) ?_
  refine lr_cM (rest := _) (As := [iv (sx Y (i + 1)), iv (sx Y (i + 2)), iv (sx Y (i + 3)), iv (sx Y (i + 4))]) (q := (RX8, TX8, 34)) F dL_law_1015 cv_L_106 (c_X8_held (B := bm Y) (w := w.1) (m := w.2) hM (IX_IM hI) s1 s2 s3 s4) rfl rfl rfl ⟨(Nat.le_of_ble_eq_true rfl), (Nat.le_of_ble_eq_true rfl)⟩ rfl (Nat.le_of_ble_eq_true rfl) (fun v um hm => ?_)
  obtain ⟨rm, rfl, hm⟩ := hm
  obtain ⟨rfl, hx⟩ := hx
  obtain ⟨rfl, hm⟩ := hm
  exact lr_same F dL_law_1018 (by decide) (k _ _ (INV_q hw hx (hm.1)))
theorem op_21 {Y : Yc} (F : LF Y) {i : Int} (hi : 0 ≤ i) (hL : i + 7 ≤ yL Y) {w : W2} (hw : IX w.1 ∧ RM w.1 w.2) (k : ∀ a b : Wd, IX a ∧ RM a b → LW Y 1377 (Lv Y i) [] (a, b)) : LW Y 1023 (Lv Y i) [] w := by
  have hLy : yL Y ≤ 3584 := F.2.2.2.2.2.2.2.2.2.2.2.2
  have hI := hw.1
  have hM := hw.2
  have g1 := hI.1.1
  have g3 := hI.2.2.1.1.1
  have g8 := hI.2.2.2.1.1.1
  have g18 := hI.2.2.2.2.2.1.1
  have g11 := hI.2.2.2.2.2.2.1.1
  have g14 := hI.2.2.2.2.2.2.1.2
  have g0 : 0 ≤ w.1 0 8 ∧ w.1 0 8 ≤ 10 := hI.2.2.2.2.1
  have s1 := sx_R Y (i + 1)
  have s2 := sx_R Y (i + 2)
  have s3 := sx_R Y (i + 3)
  refine lr_aload_n F dL_law_1023 rfl ?_
  refine lr_aload_n F dL_law_1024 rfl ?_
  refine lr_iload_n F dL_law_1025 rfl ?_
  refine lr_iconst F dL_law_1026 ?_
  refine lr_iadd F dL_law_1027 ?_
  refine lr_sld F dL_law_1028 (by omega) (by omega) ?_
  refine lr_aload_n F dL_law_1029 rfl ?_
  refine lr_iload_n F dL_law_1030 rfl ?_
  refine lr_iconst F dL_law_1031 ?_
  refine lr_iadd F dL_law_1032 ?_
  refine lr_sld F dL_law_1033 (by omega) (by omega) ?_
  refine lr_aload_n F dL_law_1034 rfl ?_
  refine lr_iload_n F dL_law_1035 rfl ?_
  refine lr_iconst F dL_law_1036 ?_
  refine lr_iadd F dL_law_1037 ?_
  refine lr_sld F dL_law_1038 (by omega) (by omega) ?_
  refine lr_cX (rest := []) (As := [iv (sx Y (i + 1)), iv (sx Y (i + 2)), iv (sx Y (i + 3))]) (q := (RX7, TX7, 9)) F dL_law_1039 cv_L_107 (c_X7_doubt (B := bx Y) (w := w.1) (IX_QI hI) s1 s2 s3) rfl rfl rfl ⟨(Nat.le_of_ble_eq_true rfl), (Nat.le_of_ble_eq_true rfl)⟩ rfl (Nat.le_of_ble_eq_true rfl) (fun v ux hx => ?_)
  obtain ⟨rx, rfl, hx⟩ := hx
  refine lr_aload_n F dL_law_1042 rfl ?_
  refine lr_aload_n F dL_law_1043 rfl ?_
  refine lr_iload_n F dL_law_1044 rfl ?_
  refine lr_iconst F dL_law_1045 ?_
  refine lr_iadd F dL_law_1046 ?_
  refine lr_sld F dL_law_1047 (by omega) (by omega) ?_
  refine lr_aload_n F dL_law_1048 rfl ?_
  refine lr_iload_n F dL_law_1049 rfl ?_
  refine lr_iconst F dL_law_1050 ?_
  refine lr_iadd F dL_law_1051 ?_
  refine lr_sld F dL_law_1052 (by omega) (by omega) ?_
  refine lr_aload_n F dL_law_1053 rfl ?_
  refine lr_iload_n F dL_law_1054 rfl ?_
  refine lr_iconst F dL_law_1055 ?_
  refine lr_iadd F dL_law_1056 ?_
  refine lr_sld F dL_law_1057 (by omega) (by omega) ?_
  refine lr_cM (rest := _) (As := [iv (sx Y (i + 1)), iv (sx Y (i + 2)), iv (sx Y (i + 3))]) (q := (RX8, TX8, 34)) F dL_law_1058 cv_L_110 (c_X8_doubt (B := bm Y) (w := w.1) (m := w.2) hM (IX_IM hI) g0 s1 s2 s3) rfl rfl rfl ⟨(Nat.le_of_ble_eq_true rfl), (Nat.le_of_ble_eq_true rfl)⟩ rfl (Nat.le_of_ble_eq_true rfl) (fun v um hm => ?_)
  obtain ⟨rm, rfl, hm⟩ := hm
  obtain ⟨rfl, hx⟩ := hx
  obtain ⟨rfl, hm⟩ := hm
  exact lr_same F dL_law_1061 (by decide) (k _ _ (INV_doubt hw hx hm))
theorem op_22 {Y : Yc} (F : LF Y) {i : Int} (hi : 0 ≤ i) (hL : i + 7 ≤ yL Y) {w : W2} (hw : IX w.1 ∧ RM w.1 w.2) (k : ∀ a b : Wd, IX a ∧ RM a b → LW Y 1377 (Lv Y i) [] (a, b)) : LW Y 1066 (Lv Y i) [] w := by
  have hLy : yL Y ≤ 3584 := F.2.2.2.2.2.2.2.2.2.2.2.2
  have hI := hw.1
  have hM := hw.2
  have g1 := hI.1.1
  have g3 := hI.2.2.1.1.1
  have g8 := hI.2.2.2.1.1.1
  have g18 := hI.2.2.2.2.2.1.1
  have g11 := hI.2.2.2.2.2.2.1.1
  have g14 := hI.2.2.2.2.2.2.1.2
  have g0 : 0 ≤ w.1 0 8 ∧ w.1 0 8 ≤ 10 := hI.2.2.2.2.1
  have s1 := sx_R Y (i + 1)
  have s2 := sx_R Y (i + 2)
  refine lr_aload_n F dL_law_1066 rfl ?_
  refine lr_aload_n F dL_law_1067 rfl ?_
  refine lr_iload_n F dL_law_1068 rfl ?_
  refine lr_iconst F dL_law_1069 ?_
  refine lr_iadd F dL_law_1070 ?_
  refine lr_sld F dL_law_1071 (by omega) (by omega) ?_
  refine lr_aload_n F dL_law_1072 rfl ?_
  refine lr_iload_n F dL_law_1073 rfl ?_
  refine lr_iconst F dL_law_1074 ?_
  refine lr_iadd F dL_law_1075 ?_
  refine lr_sld F dL_law_1076 (by omega) (by omega) ?_
  refine lr_cX (rest := []) (As := [iv (sx Y (i + 1)), iv (sx Y (i + 2))]) (q := (RX7, TX7, 9)) F dL_law_1077 cv_L_111 (c_X7_floats (B := bx Y) (w := w.1) (IX_QI hI) (I5_TN hI.2.2.1) s1 s2) rfl rfl rfl ⟨(Nat.le_of_ble_eq_true rfl), (Nat.le_of_ble_eq_true rfl)⟩ rfl (Nat.le_of_ble_eq_true rfl) (fun v ux hx => ?_)
  obtain ⟨rx, rfl, hx⟩ := hx
  refine lr_aload_n F dL_law_1080 rfl ?_
  refine lr_aload_n F dL_law_1081 rfl ?_
  refine lr_iload_n F dL_law_1082 rfl ?_
  refine lr_iconst F dL_law_1083 ?_
  refine lr_iadd F dL_law_1084 ?_
  refine lr_sld F dL_law_1085 (by omega) (by omega) ?_
  refine lr_aload_n F dL_law_1086 rfl ?_
  refine lr_iload_n F dL_law_1087 rfl ?_
  refine lr_iconst F dL_law_1088 ?_
  refine lr_iadd F dL_law_1089 ?_
  refine lr_sld F dL_law_1090 (by omega) (by omega) ?_
  refine lr_cM (rest := _) (As := [iv (sx Y (i + 1)), iv (sx Y (i + 2))]) (q := (RX8, TX8, 34)) F dL_law_1091 cv_L_114 (c_X8_floats (B := bm Y) (w := w.1) (m := w.2) hM (IX_IM hI) s1 s2) rfl rfl rfl ⟨(Nat.le_of_ble_eq_true rfl), (Nat.le_of_ble_eq_true rfl)⟩ rfl (Nat.le_of_ble_eq_true rfl) (fun v um hm => ?_)
  obtain ⟨rm, rfl, hm⟩ := hm
  obtain ⟨rfl, hx⟩ := hx
  obtain ⟨rfl, hm⟩ := hm
  exact lr_same F dL_law_1094 (by decide) (k _ _ (INV_q hw hx (wk_sm hm)))
theorem op_23 {Y : Yc} (F : LF Y) {i : Int} (hi : 0 ≤ i) (hL : i + 7 ≤ yL Y) {w : W2} (hw : IX w.1 ∧ RM w.1 w.2) (k : ∀ a b : Wd, IX a ∧ RM a b → LW Y 1377 (Lv Y i) [] (a, b)) : LW Y 1099 (Lv Y i) [] w := by
  have hLy : yL Y ≤ 3584 := F.2.2.2.2.2.2.2.2.2.2.2.2
  have hI := hw.1
  have hM := hw.2
  have g1 := hI.1.1
  have g3 := hI.2.2.1.1.1
  have g8 := hI.2.2.2.1.1.1
  have g18 := hI.2.2.2.2.2.1.1
  have g11 := hI.2.2.2.2.2.2.1.1
  have g14 := hI.2.2.2.2.2.2.1.2
  have g0 : 0 ≤ w.1 0 8 ∧ w.1 0 8 ≤ 10 := hI.2.2.2.2.1
  have s1 := sx_R Y (i + 1)
  have s2 := sx_R Y (i + 2)
  refine lr_aload_n F dL_law_1099 rfl ?_
  refine lr_aload_n F dL_law_1100 rfl ?_
  refine lr_iload_n F dL_law_1101 rfl ?_
  refine lr_iconst F dL_law_1102 ?_
  refine lr_iadd F dL_law_1103 ?_
  refine lr_sld F dL_law_1104 (by omega) (by omega) ?_
  refine lr_aload_n F dL_law_1105 rfl ?_
  refine lr_iload_n F dL_law_1106 rfl ?_
  refine lr_iconst F dL_law_1107 ?_
  refine lr_iadd F dL_law_1108 ?_
  refine lr_sld F dL_law_1109 (by omega) (by omega) ?_
  refine lr_cX (rest := []) (As := [iv (sx Y (i + 1)), iv (sx Y (i + 2))]) (q := (RX7, TX7, 9)) F dL_law_1110 cv_L_115 (c_X7_open (B := bx Y) (w := w.1) (IX_QI hI) s1 s2) rfl rfl rfl ⟨(Nat.le_of_ble_eq_true rfl), (Nat.le_of_ble_eq_true rfl)⟩ rfl (Nat.le_of_ble_eq_true rfl) (fun v ux hx => ?_)
  obtain ⟨rx, rfl, hx⟩ := hx
  refine lr_aload_n F dL_law_1113 rfl ?_
  refine lr_aload_n F dL_law_1114 rfl ?_
  refine lr_iload_n F dL_law_1115 rfl ?_
  refine lr_iconst F dL_law_1116 ?_
  refine lr_iadd F dL_law_1117 ?_
  refine lr_sld F dL_law_1118 (by omega) (by omega) ?_
  refine lr_aload_n F dL_law_1119 rfl ?_
  refine lr_iload_n F dL_law_1120 rfl ?_
  refine lr_iconst F dL_law_1121 ?_
  refine lr_iadd F dL_law_1122 ?_
  refine lr_sld F dL_law_1123 (by omega) (by omega) ?_
  refine lr_cM (rest := _) (As := [iv (sx Y (i + 1)), iv (sx Y (i + 2))]) (q := (RX8, TX8, 34)) F dL_law_1124 cv_L_118 (c_X8_open (B := bm Y) (w := w.1) (m := w.2) hM (IX_IM hI) s1 s2) rfl rfl rfl ⟨(Nat.le_of_ble_eq_true rfl), (Nat.le_of_ble_eq_true rfl)⟩ rfl (Nat.le_of_ble_eq_true rfl) (fun v um hm => ?_)
  obtain ⟨rm, rfl, hm⟩ := hm
  obtain ⟨rfl, hx⟩ := hx
  obtain ⟨rfl, hm⟩ := hm
  exact lr_same F dL_law_1127 (by decide) (k _ _ (INV_q hw hx (hm.1)))
theorem op_24 {Y : Yc} (F : LF Y) {i : Int} (hi : 0 ≤ i) (hL : i + 7 ≤ yL Y) {w : W2} (hw : IX w.1 ∧ RM w.1 w.2) (k : ∀ a b : Wd, IX a ∧ RM a b → LW Y 1377 (Lv Y i) [] (a, b)) : LW Y 1132 (Lv Y i) [] w := by
  have hLy : yL Y ≤ 3584 := F.2.2.2.2.2.2.2.2.2.2.2.2
  have hI := hw.1
  have hM := hw.2
  have g1 := hI.1.1
  have g3 := hI.2.2.1.1.1
  have g8 := hI.2.2.2.1.1.1
  have g18 := hI.2.2.2.2.2.1.1
  have g11 := hI.2.2.2.2.2.2.1.1
  have g14 := hI.2.2.2.2.2.2.1.2
  have g0 : 0 ≤ w.1 0 8 ∧ w.1 0 8 ≤ 10 := hI.2.2.2.2.1
  refine lr_aload_n F dL_law_1132 rfl ?_
  refine lr_cX (rest := []) (As := []) (q := (RX7, TX7, 9)) F dL_law_1133 cv_L_119 (c_X7_part (B := bx Y) (w := w.1) (IX_QI hI)) rfl rfl rfl ⟨(Nat.le_of_ble_eq_true rfl), (Nat.le_of_ble_eq_true rfl)⟩ rfl (Nat.le_of_ble_eq_true rfl) (fun v ux hx => ?_)
  obtain ⟨rx, rfl, hx⟩ := hx
  refine lr_aload_n F dL_law_1136 rfl ?_
  refine lr_cM (rest := _) (As := []) (q := (RX8, TX8, 34)) F dL_law_1137 cv_L_122 (c_X8_part (B := bm Y) (w := w.1) (m := w.2) hM (IX_IM hI)) rfl rfl rfl ⟨(Nat.le_of_ble_eq_true rfl), (Nat.le_of_ble_eq_true rfl)⟩ rfl (Nat.le_of_ble_eq_true rfl) (fun v um hm => ?_)
  obtain ⟨rm, rfl, hm⟩ := hm
  obtain ⟨rfl, hx⟩ := hx
  obtain ⟨rfl, hm⟩ := hm
  exact lr_same F dL_law_1140 (by decide) (k _ _ (INV_q hw hx (hm)))
theorem op_25 {Y : Yc} (F : LF Y) {i : Int} (hi : 0 ≤ i) (hL : i + 7 ≤ yL Y) {w : W2} (hw : IX w.1 ∧ RM w.1 w.2) (k : ∀ a b : Wd, IX a ∧ RM a b → LW Y 1377 (Lv Y i) [] (a, b)) : LW Y 1145 (Lv Y i) [] w := by
  have hLy : yL Y ≤ 3584 := F.2.2.2.2.2.2.2.2.2.2.2.2
  have hI := hw.1
  have hM := hw.2
  have g1 := hI.1.1
  have g3 := hI.2.2.1.1.1
  have g8 := hI.2.2.2.1.1.1
  have g18 := hI.2.2.2.2.2.1.1
  have g11 := hI.2.2.2.2.2.2.1.1
  have g14 := hI.2.2.2.2.2.2.1.2
  have g0 : 0 ≤ w.1 0 8 ∧ w.1 0 8 ≤ 10 := hI.2.2.2.2.1
  have s1 := sx_R Y (i + 1)
  have s2 := sx_R Y (i + 2)
  have s3 := sx_R Y (i + 3)
  have s4 := sx_R Y (i + 4)
  have s5 := sx_R Y (i + 5)
  refine lr_aload_n F dL_law_1145 rfl ?_
  refine lr_aload_n F dL_law_1146 rfl ?_
  refine lr_iload_n F dL_law_1147 rfl ?_
  refine lr_iconst F dL_law_1148 ?_
  refine lr_iadd F dL_law_1149 ?_
  refine lr_sld F dL_law_1150 (by omega) (by omega) ?_
  refine lr_aload_n F dL_law_1151 rfl ?_
  refine lr_iload_n F dL_law_1152 rfl ?_
  refine lr_iconst F dL_law_1153 ?_
  refine lr_iadd F dL_law_1154 ?_
  refine lr_sld F dL_law_1155 (by omega) (by omega) ?_
  refine lr_aload_n F dL_law_1156 rfl ?_
  refine lr_iload_n F dL_law_1157 rfl ?_
  refine lr_iconst F dL_law_1158 ?_
  refine lr_iadd F dL_law_1159 ?_
  refine lr_sld F dL_law_1160 (by omega) (by omega) ?_
  refine lr_aload_n F dL_law_1161 rfl ?_
  refine lr_iload_n F dL_law_1162 rfl ?_
  refine lr_iconst F dL_law_1163 ?_
  refine lr_iadd F dL_law_1164 ?_
  refine lr_sld F dL_law_1165 (by omega) (by omega) ?_
  refine lr_aload_n F dL_law_1166 rfl ?_
  refine lr_iload_n F dL_law_1167 rfl ?_
  refine lr_iconst F dL_law_1168 ?_
  refine lr_iadd F dL_law_1169 ?_
  refine lr_sld F dL_law_1170 (by omega) (by omega) ?_
  refine lr_cX (rest := []) (As := [iv (sx Y (i + 1)), iv (sx Y (i + 2)), iv (sx Y (i + 3)), iv (sx Y (i + 4)), iv (sx Y (i + 5))]) (q := (RX7, TX7, 9)) F dL_law_1171 cv_L_123 (c_X7_wish (B := bx Y) (w := w.1) g1 g8 hI.2.2.2.1.1.2 s1 s2 s3 s4 s5) rfl rfl rfl ⟨(Nat.le_of_ble_eq_true rfl), (Nat.le_of_ble_eq_true rfl)⟩ rfl (Nat.le_of_ble_eq_true rfl) (fun v ux hx => ?_)
  obtain ⟨rfl, rfl⟩ := hx
  refine lr_aload_n F dL_law_1174 rfl ?_
  refine lr_aload_n F dL_law_1175 rfl ?_
  refine lr_iload_n F dL_law_1176 rfl ?_
  refine lr_iconst F dL_law_1177 ?_
  refine lr_iadd F dL_law_1178 ?_
  refine lr_sld F dL_law_1179 (by omega) (by omega) ?_
  refine lr_aload_n F dL_law_1180 rfl ?_
  refine lr_iload_n F dL_law_1181 rfl ?_
  refine lr_iconst F dL_law_1182 ?_
  refine lr_iadd F dL_law_1183 ?_
  refine lr_sld F dL_law_1184 (by omega) (by omega) ?_
  refine lr_aload_n F dL_law_1185 rfl ?_
  refine lr_iload_n F dL_law_1186 rfl ?_
  refine lr_iconst F dL_law_1187 ?_
  refine lr_iadd F dL_law_1188 ?_
  refine lr_sld F dL_law_1189 (by omega) (by omega) ?_
  refine lr_aload_n F dL_law_1190 rfl ?_
  refine lr_iload_n F dL_law_1191 rfl ?_
  refine lr_iconst F dL_law_1192 ?_
  refine lr_iadd F dL_law_1193 ?_
  refine lr_sld F dL_law_1194 (by omega) (by omega) ?_
  refine lr_aload_n F dL_law_1195 rfl ?_
  refine lr_iload_n F dL_law_1196 rfl ?_
  refine lr_iconst F dL_law_1197 ?_
  refine lr_iadd F dL_law_1198 ?_
  refine lr_sld F dL_law_1199 (by omega) (by omega) ?_
  refine lr_cM (rest := _) (As := [iv (sx Y (i + 1)), iv (sx Y (i + 2)), iv (sx Y (i + 3)), iv (sx Y (i + 4)), iv (sx Y (i + 5))]) (q := (RX8, TX8, 34)) F dL_law_1200 cv_L_126 (c_X8_wish (B := bm Y) (w := w.1) (m := w.2) hM g1 g8 s1 s2 s3 s4 s5) rfl rfl rfl ⟨(Nat.le_of_ble_eq_true rfl), (Nat.le_of_ble_eq_true rfl)⟩ rfl (Nat.le_of_ble_eq_true rfl) (fun v um hm => ?_)
  obtain ⟨rfl, rfl⟩ := hm
  exact lr_same F dL_law_1203 (by decide) (k _ _ (INV_wish hw))
theorem op_26 {Y : Yc} (F : LF Y) {i : Int} (hi : 0 ≤ i) (hL : i + 7 ≤ yL Y) {w : W2} (hw : IX w.1 ∧ RM w.1 w.2) (k : ∀ a b : Wd, IX a ∧ RM a b → LW Y 1377 (Lv Y i) [] (a, b)) : LW Y 1208 (Lv Y i) [] w := by
  have hLy : yL Y ≤ 3584 := F.2.2.2.2.2.2.2.2.2.2.2.2
  have hI := hw.1
  have hM := hw.2
  have g1 := hI.1.1
  have g3 := hI.2.2.1.1.1
  have g8 := hI.2.2.2.1.1.1
  have g18 := hI.2.2.2.2.2.1.1
  have g11 := hI.2.2.2.2.2.2.1.1
  have g14 := hI.2.2.2.2.2.2.1.2
  have g0 : 0 ≤ w.1 0 8 ∧ w.1 0 8 ≤ 10 := hI.2.2.2.2.1
  have s1 := sx_R Y (i + 1)
  have s2 := sx_R Y (i + 2)
  have s3 := sx_R Y (i + 3)
  refine lr_aload_n F dL_law_1208 rfl ?_
  refine lr_aload_n F dL_law_1209 rfl ?_
  refine lr_iload_n F dL_law_1210 rfl ?_
  refine lr_iconst F dL_law_1211 ?_
  refine lr_iadd F dL_law_1212 ?_
  refine lr_sld F dL_law_1213 (by omega) (by omega) ?_
  refine lr_aload_n F dL_law_1214 rfl ?_
  refine lr_iload_n F dL_law_1215 rfl ?_
  refine lr_iconst F dL_law_1216 ?_
  refine lr_iadd F dL_law_1217 ?_
  refine lr_sld F dL_law_1218 (by omega) (by omega) ?_
  refine lr_aload_n F dL_law_1219 rfl ?_
  refine lr_iload_n F dL_law_1220 rfl ?_
  refine lr_iconst F dL_law_1221 ?_
  refine lr_iadd F dL_law_1222 ?_
  refine lr_sld F dL_law_1223 (by omega) (by omega) ?_
  refine lr_cX (rest := []) (As := [iv (sx Y (i + 1)), iv (sx Y (i + 2)), iv (sx Y (i + 3))]) (q := (RX7, TX7, 9)) F dL_law_1224 cv_L_127 (c_X7_closes (B := bx Y) (w := w.1) (IX_QI hI) s1 s2 s3) rfl rfl rfl ⟨(Nat.le_of_ble_eq_true rfl), (Nat.le_of_ble_eq_true rfl)⟩ rfl (Nat.le_of_ble_eq_true rfl) (fun v ux hx => ?_)
  obtain ⟨rx, rfl, hx⟩ := hx
  refine lr_aload_n F dL_law_1227 rfl ?_
  refine lr_aload_n F dL_law_1228 rfl ?_
  refine lr_iload_n F dL_law_1229 rfl ?_
  refine lr_iconst F dL_law_1230 ?_
  refine lr_iadd F dL_law_1231 ?_
  refine lr_sld F dL_law_1232 (by omega) (by omega) ?_
  refine lr_aload_n F dL_law_1233 rfl ?_
  refine lr_iload_n F dL_law_1234 rfl ?_
  refine lr_iconst F dL_law_1235 ?_
  refine lr_iadd F dL_law_1236 ?_
  refine lr_sld F dL_law_1237 (by omega) (by omega) ?_
  refine lr_aload_n F dL_law_1238 rfl ?_
  refine lr_iload_n F dL_law_1239 rfl ?_
  refine lr_iconst F dL_law_1240 ?_
  refine lr_iadd F dL_law_1241 ?_
  refine lr_sld F dL_law_1242 (by omega) (by omega) ?_
  refine lr_cM (rest := _) (As := [iv (sx Y (i + 1)), iv (sx Y (i + 2)), iv (sx Y (i + 3))]) (q := (RX8, TX8, 34)) F dL_law_1243 cv_L_130 (c_X8_closes (B := bm Y) (w := w.1) (m := w.2) hM (IX_IM hI) (I8_q6 hI.2.2.2.1) s1 s2 s3) rfl rfl rfl ⟨(Nat.le_of_ble_eq_true rfl), (Nat.le_of_ble_eq_true rfl)⟩ rfl (Nat.le_of_ble_eq_true rfl) (fun v um hm => ?_)
  obtain ⟨rm, rfl, hm⟩ := hm
  obtain ⟨rfl, hx⟩ := hx
  obtain ⟨rfl, hm⟩ := hm
  exact lr_same F dL_law_1246 (by decide) (k _ _ (INV_q hw hx (hm.1)))
theorem op_27 {Y : Yc} (F : LF Y) {i : Int} (hi : 0 ≤ i) (hL : i + 7 ≤ yL Y) {w : W2} (hw : IX w.1 ∧ RM w.1 w.2) (k : ∀ a b : Wd, IX a ∧ RM a b → LW Y 1377 (Lv Y i) [] (a, b)) : LW Y 1251 (Lv Y i) [] w := by
  have hLy : yL Y ≤ 3584 := F.2.2.2.2.2.2.2.2.2.2.2.2
  have hI := hw.1
  have hM := hw.2
  have g1 := hI.1.1
  have g3 := hI.2.2.1.1.1
  have g8 := hI.2.2.2.1.1.1
  have g18 := hI.2.2.2.2.2.1.1
  have g11 := hI.2.2.2.2.2.2.1.1
  have g14 := hI.2.2.2.2.2.2.1.2
  have g0 : 0 ≤ w.1 0 8 ∧ w.1 0 8 ≤ 10 := hI.2.2.2.2.1
  have s1 := sx_R Y (i + 1)
  have s2 := sx_R Y (i + 2)
  refine lr_aload_n F dL_law_1251 rfl ?_
  refine lr_aload_n F dL_law_1252 rfl ?_
  refine lr_iload_n F dL_law_1253 rfl ?_
  refine lr_iconst F dL_law_1254 ?_
  refine lr_iadd F dL_law_1255 ?_
  refine lr_sld F dL_law_1256 (by omega) (by omega) ?_
  refine lr_aload_n F dL_law_1257 rfl ?_
  refine lr_iload_n F dL_law_1258 rfl ?_
  refine lr_iconst F dL_law_1259 ?_
  refine lr_iadd F dL_law_1260 ?_
  refine lr_sld F dL_law_1261 (by omega) (by omega) ?_
  refine lr_cX (rest := []) (As := [iv (sx Y (i + 1)), iv (sx Y (i + 2))]) (q := (RX7, TX7, 9)) F dL_law_1262 cv_L_131 (c_X7_best (B := bx Y) (w := w.1) (IX_QI hI) s1 s2) rfl rfl rfl ⟨(Nat.le_of_ble_eq_true rfl), (Nat.le_of_ble_eq_true rfl)⟩ rfl (Nat.le_of_ble_eq_true rfl) (fun v ux hx => ?_)
  obtain ⟨rx, rfl, hx⟩ := hx
  refine lr_aload_n F dL_law_1265 rfl ?_
  refine lr_aload_n F dL_law_1266 rfl ?_
  refine lr_iload_n F dL_law_1267 rfl ?_
  refine lr_iconst F dL_law_1268 ?_
  refine lr_iadd F dL_law_1269 ?_
  refine lr_sld F dL_law_1270 (by omega) (by omega) ?_
  refine lr_aload_n F dL_law_1271 rfl ?_
  refine lr_iload_n F dL_law_1272 rfl ?_
  refine lr_iconst F dL_law_1273 ?_
  refine lr_iadd F dL_law_1274 ?_
  refine lr_sld F dL_law_1275 (by omega) (by omega) ?_
  refine lr_cM (rest := _) (As := [iv (sx Y (i + 1)), iv (sx Y (i + 2))]) (q := (RX8, TX8, 34)) F dL_law_1276 cv_L_134 (c_X8_best (B := bm Y) (w := w.1) (m := w.2) hM (IX_IM hI) (I8_q6 hI.2.2.2.1) s1 s2) rfl rfl rfl ⟨(Nat.le_of_ble_eq_true rfl), (Nat.le_of_ble_eq_true rfl)⟩ rfl (Nat.le_of_ble_eq_true rfl) (fun v um hm => ?_)
  obtain ⟨rm, rfl, hm⟩ := hm
  obtain ⟨rfl, hx⟩ := hx
  obtain ⟨rfl, hm⟩ := hm
  exact lr_same F dL_law_1279 (by decide) (k _ _ (INV_q hw hx (hm.1)))
theorem op_28 {Y : Yc} (F : LF Y) {i : Int} (hi : 0 ≤ i) (hL : i + 7 ≤ yL Y) {w : W2} (hw : IX w.1 ∧ RM w.1 w.2) (k : ∀ a b : Wd, IX a ∧ RM a b → LW Y 1377 (Lv Y i) [] (a, b)) : LW Y 1284 (Lv Y i) [] w := by
  have hLy : yL Y ≤ 3584 := F.2.2.2.2.2.2.2.2.2.2.2.2
  have hI := hw.1
  have hM := hw.2
  have g1 := hI.1.1
  have g3 := hI.2.2.1.1.1
  have g8 := hI.2.2.2.1.1.1
  have g18 := hI.2.2.2.2.2.1.1
  have g11 := hI.2.2.2.2.2.2.1.1
  have g14 := hI.2.2.2.2.2.2.1.2
  have g0 : 0 ≤ w.1 0 8 ∧ w.1 0 8 ≤ 10 := hI.2.2.2.2.1
  have s1 := sx_R Y (i + 1)
  have s2 := sx_R Y (i + 2)
  refine lr_aload_n F dL_law_1284 rfl ?_
  refine lr_aload_n F dL_law_1285 rfl ?_
  refine lr_iload_n F dL_law_1286 rfl ?_
  refine lr_iconst F dL_law_1287 ?_
  refine lr_iadd F dL_law_1288 ?_
  refine lr_sld F dL_law_1289 (by omega) (by omega) ?_
  refine lr_aload_n F dL_law_1290 rfl ?_
  refine lr_iload_n F dL_law_1291 rfl ?_
  refine lr_iconst F dL_law_1292 ?_
  refine lr_iadd F dL_law_1293 ?_
  refine lr_sld F dL_law_1294 (by omega) (by omega) ?_
  refine lr_cX (rest := []) (As := [iv (sx Y (i + 1)), iv (sx Y (i + 2))]) (q := (RX7, TX7, 9)) F dL_law_1295 cv_L_135 (c_X7_tell (B := bx Y) (w := w.1) g1 s1 s2) rfl rfl rfl ⟨(Nat.le_of_ble_eq_true rfl), (Nat.le_of_ble_eq_true rfl)⟩ rfl (Nat.le_of_ble_eq_true rfl) (fun v ux hx => ?_)
  obtain ⟨rfl, rfl⟩ := hx
  refine lr_aload_n F dL_law_1298 rfl ?_
  refine lr_aload_n F dL_law_1299 rfl ?_
  refine lr_iload_n F dL_law_1300 rfl ?_
  refine lr_iconst F dL_law_1301 ?_
  refine lr_iadd F dL_law_1302 ?_
  refine lr_sld F dL_law_1303 (by omega) (by omega) ?_
  refine lr_aload_n F dL_law_1304 rfl ?_
  refine lr_iload_n F dL_law_1305 rfl ?_
  refine lr_iconst F dL_law_1306 ?_
  refine lr_iadd F dL_law_1307 ?_
  refine lr_sld F dL_law_1308 (by omega) (by omega) ?_
  refine lr_cM (rest := _) (As := [iv (sx Y (i + 1)), iv (sx Y (i + 2))]) (q := (RX8, TX8, 34)) F dL_law_1309 cv_L_138 (c_X8_tell (B := bm Y) (w := w.1) (m := w.2) hM g1 s1 s2) rfl rfl rfl ⟨(Nat.le_of_ble_eq_true rfl), (Nat.le_of_ble_eq_true rfl)⟩ rfl (Nat.le_of_ble_eq_true rfl) (fun v um hm => ?_)
  obtain ⟨rfl, rfl⟩ := hm
  exact lr_same F dL_law_1312 (by decide) (k _ _ (INV_tell hw))
theorem op_29 {Y : Yc} (F : LF Y) {i : Int} (hi : 0 ≤ i) (hL : i + 7 ≤ yL Y) {w : W2} (hw : IX w.1 ∧ RM w.1 w.2) (k : ∀ a b : Wd, IX a ∧ RM a b → LW Y 1377 (Lv Y i) [] (a, b)) : LW Y 1317 (Lv Y i) [] w := by
  have hLy : yL Y ≤ 3584 := F.2.2.2.2.2.2.2.2.2.2.2.2
  have hI := hw.1
  have hM := hw.2
  have g1 := hI.1.1
  have g3 := hI.2.2.1.1.1
  have g8 := hI.2.2.2.1.1.1
  have g18 := hI.2.2.2.2.2.1.1
  have g11 := hI.2.2.2.2.2.2.1.1
  have g14 := hI.2.2.2.2.2.2.1.2
  have g0 : 0 ≤ w.1 0 8 ∧ w.1 0 8 ≤ 10 := hI.2.2.2.2.1
  have s1 := sx_R Y (i + 1)
  refine lr_aload_n F dL_law_1317 rfl ?_
  refine lr_aload_n F dL_law_1318 rfl ?_
  refine lr_iload_n F dL_law_1319 rfl ?_
  refine lr_iconst F dL_law_1320 ?_
  refine lr_iadd F dL_law_1321 ?_
  refine lr_sld F dL_law_1322 (by omega) (by omega) ?_
  refine lr_cX (rest := []) (As := [iv (sx Y (i + 1))]) (q := (RX7, TX7, 9)) F dL_law_1323 cv_L_139 (c_X7_judge (B := bx Y) (w := w.1) (IX_QI hI) (I3_td hI.2.1) s1) rfl rfl rfl ⟨(Nat.le_of_ble_eq_true rfl), (Nat.le_of_ble_eq_true rfl)⟩ rfl (Nat.le_of_ble_eq_true rfl) (fun v ux hx => ?_)
  obtain ⟨rx, rfl, hx⟩ := hx
  refine lr_aload_n F dL_law_1326 rfl ?_
  refine lr_aload_n F dL_law_1327 rfl ?_
  refine lr_iload_n F dL_law_1328 rfl ?_
  refine lr_iconst F dL_law_1329 ?_
  refine lr_iadd F dL_law_1330 ?_
  refine lr_sld F dL_law_1331 (by omega) (by omega) ?_
  refine lr_cM (rest := _) (As := [iv (sx Y (i + 1))]) (q := (RX8, TX8, 34)) F dL_law_1332 cv_L_142 (c_X8_judge (B := bm Y) (w := w.1) (m := w.2) hM (IX_IM hI) (I3_td hI.2.1) s1) rfl rfl rfl ⟨(Nat.le_of_ble_eq_true rfl), (Nat.le_of_ble_eq_true rfl)⟩ rfl (Nat.le_of_ble_eq_true rfl) (fun v um hm => ?_)
  obtain ⟨rm, rfl, hm⟩ := hm
  obtain ⟨rfl, hx⟩ := hx
  obtain ⟨rfl, hm⟩ := hm
  exact lr_same F dL_law_1335 (by decide) (k _ _ (INV_q hw hx (hm.1)))
theorem op_30 {Y : Yc} (F : LF Y) {i : Int} (hi : 0 ≤ i) (hL : i + 7 ≤ yL Y) {w : W2} (hw : IX w.1 ∧ RM w.1 w.2) (k : ∀ a b : Wd, IX a ∧ RM a b → LW Y 1377 (Lv Y i) [] (a, b)) : LW Y 1340 (Lv Y i) [] w := by
  have hLy : yL Y ≤ 3584 := F.2.2.2.2.2.2.2.2.2.2.2.2
  have hI := hw.1
  have hM := hw.2
  have g1 := hI.1.1
  have g3 := hI.2.2.1.1.1
  have g8 := hI.2.2.2.1.1.1
  have g18 := hI.2.2.2.2.2.1.1
  have g11 := hI.2.2.2.2.2.2.1.1
  have g14 := hI.2.2.2.2.2.2.1.2
  have g0 : 0 ≤ w.1 0 8 ∧ w.1 0 8 ≤ 10 := hI.2.2.2.2.1
  have s1 := sx_R Y (i + 1)
  refine lr_aload_n F dL_law_1340 rfl ?_
  refine lr_aload_n F dL_law_1341 rfl ?_
  refine lr_iload_n F dL_law_1342 rfl ?_
  refine lr_iconst F dL_law_1343 ?_
  refine lr_iadd F dL_law_1344 ?_
  refine lr_sld F dL_law_1345 (by omega) (by omega) ?_
  refine lr_cX (rest := []) (As := [iv (sx Y (i + 1))]) (q := (RX7, TX7, 9)) F dL_law_1346 cv_L_143 (c_X7_count (B := bx Y) (w := w.1) s1) rfl rfl rfl ⟨(Nat.le_of_ble_eq_true rfl), (Nat.le_of_ble_eq_true rfl)⟩ rfl (Nat.le_of_ble_eq_true rfl) (fun v ux hx => ?_)
  obtain ⟨rfl, rfl⟩ := hx
  refine lr_aload_n F dL_law_1349 rfl ?_
  refine lr_aload_n F dL_law_1350 rfl ?_
  refine lr_iload_n F dL_law_1351 rfl ?_
  refine lr_iconst F dL_law_1352 ?_
  refine lr_iadd F dL_law_1353 ?_
  refine lr_sld F dL_law_1354 (by omega) (by omega) ?_
  refine lr_cM (rest := _) (As := [iv (sx Y (i + 1))]) (q := (RX8, TX8, 34)) F dL_law_1355 cv_L_146 (c_X8_count (B := bm Y) (w := w.1) (m := w.2) hM s1) rfl rfl rfl ⟨(Nat.le_of_ble_eq_true rfl), (Nat.le_of_ble_eq_true rfl)⟩ rfl (Nat.le_of_ble_eq_true rfl) (fun v um hm => ?_)
  obtain ⟨rfl, rfl⟩ := hm
  exact lr_same F dL_law_1358 (by decide) (k _ _ hw)
theorem op_31 {Y : Yc} (F : LF Y) {i : Int} (hi : 0 ≤ i) (hL : i + 7 ≤ yL Y) {w : W2} (hw : IX w.1 ∧ RM w.1 w.2) (k : ∀ a b : Wd, IX a ∧ RM a b → LW Y 1377 (Lv Y i) [] (a, b)) : LW Y 1363 (Lv Y i) [] w := by
  have hLy : yL Y ≤ 3584 := F.2.2.2.2.2.2.2.2.2.2.2.2
  have hI := hw.1
  have hM := hw.2
  have g1 := hI.1.1
  have g3 := hI.2.2.1.1.1
  have g8 := hI.2.2.2.1.1.1
  have g18 := hI.2.2.2.2.2.1.1
  have g11 := hI.2.2.2.2.2.2.1.1
  have g14 := hI.2.2.2.2.2.2.1.2
  have g0 : 0 ≤ w.1 0 8 ∧ w.1 0 8 ≤ 10 := hI.2.2.2.2.1
  refine lr_aload_n F dL_law_1363 rfl ?_
  refine lr_cX (rest := []) (As := []) (q := (RX7, TX7, 9)) F dL_law_1364 cv_L_147 (c_X7_digest (B := bx Y) (w := w.1) (IX_QI hI) (I5_TN hI.2.2.1) g18 g0) rfl rfl rfl ⟨(Nat.le_of_ble_eq_true rfl), (Nat.le_of_ble_eq_true rfl)⟩ rfl (Nat.le_of_ble_eq_true rfl) (fun v ux hx => ?_)
  obtain ⟨rx, rfl, hx⟩ := hx
  refine lr_aload_n F dL_law_1367 rfl ?_
  refine lr_cM (rest := _) (As := []) (q := (RX8, TX8, 34)) F dL_law_1368 cv_L_151 (c_X8_digest (B := bm Y) (w := w.1) (m := w.2) hM (IX_IM hI) g18 g0 (I18_pg hI.2.2.2.2.2.1)) rfl rfl rfl ⟨(Nat.le_of_ble_eq_true rfl), (Nat.le_of_ble_eq_true rfl)⟩ rfl (Nat.le_of_ble_eq_true rfl) (fun v um hm => ?_)
  obtain ⟨rm, rfl, hm⟩ := hm
  obtain ⟨rfl, hx⟩ := hx
  obtain ⟨rfl, hm⟩ := hm
  exact lr_sameL F dL_law_1371 dL_law_1372 (by decide) (k _ _ (INV_q hw hx (hm)))
