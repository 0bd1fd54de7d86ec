/-! what the tables say of a field that an instruction names: own: the class of the method, i: the entry of its pool, ci: the class of the object, j: the field's place -/
def Fg (own : String) (i ci j : Nat) : Prop := ∃ (C : String) (T : u_T) (N : Nat), vwCl[ci]? = some (C, T, N) ∧ j < N ∧ (∀ w ∈ u_ws C T N, w ∈ tb0) ∧ Cond.fieldLink own i (T j).1 (T j).2.1 (T j).2.2.1 ∈ tb0
def Fp (own : String) (i ci j : Nat) (ty : FieldType) : Prop := ∃ (C : String) (T : u_T) (N : Nat) (ty0 : Nat → FieldType), vwCl[ci]? = some (C, T, N) ∧ j < N ∧ (∀ w ∈ u_ws C T N, w ∈ tb0) ∧ Cond.fieldLink own i (T j).1 (T j).2.1 (T j).2.2.1 ∈ tb0 ∧
  (∀ k, k < N → parseFieldDescriptor (T k).2.2.1 = some (ty0 k)) ∧ (∀ a, a < N → ∀ b, b < N → a ≠ b → (T a).2.1 ≠ (T b).2.1) ∧ (T j).2.2.2 = false ∧ parseFieldDescriptor (T j).2.2.1 = some ty
theorem nar_bool {a : Int} (h : 0 ≤ a ∧ a ≤ 1) : narrow .boolean (.int (Int32.ofInt a)) = .int (Int32.ofInt a) ∧ fits .boolean (.int (Int32.ofInt a)) = true := by
  rcases (show a = 0 ∨ a = 1 by omega) with rfl | rfl <;> exact ⟨by decide, by decide⟩
theorem iv_nat (n : Nat) : Int32.ofNat n = Int32.ofInt (n : Int) := by rw [Int32.ofInt_eq_ofNat]
theorem upd_arr {w : Wd} {k : Nat} {i v : Int} (h0 : 0 ≤ i) : upd (fun j => Int32.ofInt (w k (j : Int))) i.toNat (Int32.ofInt v) = fun j : Nat => Int32.ofInt (up w k i v k (j : Int)) := by
  funext j
  unfold upd up
  by_cases h : j = i.toNat
  · have : (j : Int) = i := by omega
    rw [if_pos h, if_pos ⟨rfl, this⟩]
  · have : ¬ (j : Int) = i := by omega
    rw [if_neg h, if_neg (fun q => this q.2)]
theorem fvs_set {G : Gc} {w : Wd} {k j c : Nat} {v : Int} {x : Value} : ∀ {l : List Nat} {b : Nat}, l[j]? = some c → fv G (up w k ((b + j : Nat) : Int) v) k (b + j) c = x → (fvs G w k b l).set j x = fvs G (up w k ((b + j : Nat) : Int) v) k b l
  | [], b, h, _ => by simp at h
  | u :: t, b, h, hx => by
    have tl : ∀ (l : List Nat) (m : Nat), b + j < m → fvs G (up w k ((b + j : Nat) : Int) v) k m l = fvs G w k m l := by
      intro l
      induction l with
      | nil => intro m _; rfl
      | cons q l ih =>
        intro m hm
        simp only [fvs, ih (m + 1) (by omega)]
        congr 1
        unfold fv
        simp only [up_ne (w := w) (k := k) (k' := k) (i := ((b + j : Nat) : Int)) (v := v) (j := (m : Int)) (by omega)]
    cases j with
    | zero =>
      simp only [List.getElem?_cons_zero, Option.some.injEq] at h
      subst h
      simp only [fvs, List.set_cons_zero]
      rw [tl t (b + 1) (by omega)]
      rw [show b + 0 = b from rfl] at hx
      rw [show b + 0 = b from rfl, hx]
    | succ j =>
      simp only [List.getElem?_cons_succ] at h
      simp only [fvs, List.set_cons_succ]
      have h1 : fv G (up w k ((b + (j + 1) : Nat) : Int) v) k b u = fv G w k b u := by
        unfold fv
        simp only [up_ne (w := w) (k := k) (k' := k) (i := ((b + (j + 1) : Nat) : Int)) (v := v) (j := (b : Int)) (by omega)]
      rw [h1]
      have e : b + (j + 1) = (b + 1) + j := by omega
      rw [e] at hx ⊢
      rw [fvs_set (b := b + 1) h hx]
section JH
variable {G : Gc} {X : Xc} {own : String} {cc : ByteArray} {nL d : Nat} {ret : Option FieldType} {post : Option Value → Wd → Prop} {pc : Nat} {lv : List (Option Value)} {rest : List Value} {w : Wd}
theorem jr_getV (F : Fx G X own cc nL d ret) {i k ci j c : Nat} {fs : List Nat} (hd : decode cc pc = .ok (.getfield i, 3)) (L : Fg own i ci j) (hk : k < gn G) (hs : gS G k = .inr (ci, fs)) (hc : fs[j]? = some c)
    (kk : Jw G X post (pc + 3) lv (fv G w k j c :: rest) w) : Jw G X post pc lv (.ref (ga G k) :: rest) w := by
  intro H locs ls hP hD hS hO hl
  obtain ⟨C, T, N, l1, l2, l3, l4⟩ := L
  exact va_get F.1 F.2.1 F.2.2.2.2.1 l3 F.2.2.2.1 F.2.2.2.2.2.1 hP k (by rw [cels_get hk, cel_O hs]) l1 j l2 (F.2.2.2.2.1 _ l4) (fun _ h => h) (by rw [fvs_get, hc]; simp) hd (kk H locs ls hP hD hS hO hl)
theorem jr_getI (F : Fx G X own cc nL d ret) {i k ci j : Nat} {fs : List Nat} (hd : decode cc pc = .ok (.getfield i, 3)) (L : Fg own i ci j) (hk : k < gn G) (hs : gS G k = .inr (ci, fs)) (hc : fs[j]? = some 0)
    (kk : inR (w k (j : Nat)) → Jw G X post (pc + 3) lv (iv (w k (j : Nat)) :: rest) w) : Jw G X post pc lv (.ref (ga G k) :: rest) w := by
  intro H locs ls hP hD hS hO hl
  exact jr_getV F hd L hk hs hc (kk (hO.2 k ci fs hs j 0 hc)) H locs ls hP hD hS hO hl
theorem jr_getZ (F : Fx G X own cc nL d ret) {i k ci j : Nat} {fs : List Nat} (hd : decode cc pc = .ok (.getfield i, 3)) (L : Fg own i ci j) (hk : k < gn G) (hs : gS G k = .inr (ci, fs)) (hc : fs[j]? = some 2)
    (kk : (0 ≤ w k (j : Nat) ∧ w k (j : Nat) ≤ 1) → Jw G X post (pc + 3) lv (iv (w k (j : Nat)) :: rest) w) : Jw G X post pc lv (.ref (ga G k) :: rest) w := by
  intro H locs ls hP hD hS hO hl
  exact jr_getV F hd L hk hs hc (kk (hO.2 k ci fs hs j 2 hc)) H locs ls hP hD hS hO hl
theorem jr_getL (F : Fx G X own cc nL d ret) {i k ci j : Nat} {fs : List Nat} (hd : decode cc pc = .ok (.getfield i, 3)) (L : Fg own i ci j) (hk : k < gn G) (hs : gS G k = .inr (ci, fs)) (hc : fs[j]? = some 1)
    (kk : inL (w k (j : Nat)) → Jw G X post (pc + 3) lv (lq (w k (j : Nat)) :: rest) w) : Jw G X post pc lv (.ref (ga G k) :: rest) w := by
  intro H locs ls hP hD hS hO hl
  exact jr_getV F hd L hk hs hc (kk (hO.2 k ci fs hs j 1 hc)) H locs ls hP hD hS hO hl
theorem jr_getR (F : Fx G X own cc nL d ret) {i k ci j t : Nat} {fs : List Nat} (hd : decode cc pc = .ok (.getfield i, 3)) (L : Fg own i ci j) (hk : k < gn G) (hs : gS G k = .inr (ci, fs)) (hc : fs[j]? = some (t + 3))
    (kk : Jw G X post (pc + 3) lv (.ref (ga G t) :: rest) w) : Jw G X post pc lv (.ref (ga G k) :: rest) w := jr_getV F hd L hk hs hc kk
theorem jr_putV (F : Fx G X own cc nL d ret) {i k ci j c : Nat} {fs : List Nat} {v : Int} {x : Value} {ty : FieldType} (hd : decode cc pc = .ok (.putfield i, 3)) (L : Fp own i ci j ty) (hk : k < gn G) (hs : gS G k = .inr (ci, fs)) (hc : fs[j]? = some c)
    (hx : fv G (up w k (j : Nat) v) k j c = x) (hn : narrow ty x = x) (hf : fits ty x = true) (hv : rF c v) (kk : Jw G X post (pc + 3) lv rest (up w k (j : Nat) v)) : Jw G X post pc lv (x :: .ref (ga G k) :: rest) w := by
  intro H locs ls hP hD hS hO hl
  obtain ⟨C, T, N, ty0, l1, l2, l3, l4, l5, l6, l7, l8⟩ := L
  have e : (cels G w).set k (ga G k, .inr (ci, (fvs G w k 0 fs).set j x)) = cels G (up w k (j : Nat) v) := cels_upd (fun k' h => up_cell h) (by
    rw [cel_O hs]
    have := fvs_set (G := G) (w := w) (k := k) (v := v) (b := 0) hc (x := x) (by rw [Nat.zero_add]; exact hx)
    rw [Nat.zero_add] at this
    rw [this])
  refine va_put F.1 F.2.1 F.2.2.2.2.1 l3 ty0 l5 l6 F.2.2.2.1 F.2.2.2.2.2.1 hP hD hS k (by rw [cels_get hk, cel_O hs]) l1 j l2 (F.2.2.2.2.1 _ l4) (fun _ h => h) l7 l8 hn hf (by rw [fvs_len]; exact (List.getElem?_eq_some_iff.mp hc).1) hd (fun H1 locs1 hP1 hD1 hS1 => ?_)
  rw [e] at hP1 hD1
  exact kk H1 locs1 ls hP1 hD1 hS1 (hO.upF hs hc hv) hl
theorem jr_putI (F : Fx G X own cc nL d ret) {i k ci j : Nat} {fs : List Nat} {v : Int} (hd : decode cc pc = .ok (.putfield i, 3)) (L : Fp own i ci j .int) (hk : k < gn G) (hs : gS G k = .inr (ci, fs)) (hc : fs[j]? = some 0)
    (hv : inR v) (kk : Jw G X post (pc + 3) lv rest (up w k (j : Nat) v)) : Jw G X post pc lv (iv v :: .ref (ga G k) :: rest) w :=
  jr_putV F hd L hk hs hc (by show iv (up w k (j : Nat) v k (j : Nat)) = iv v; rw [up_self]) rfl rfl hv kk
theorem jr_putZ (F : Fx G X own cc nL d ret) {i k ci j : Nat} {fs : List Nat} {v : Int} (hd : decode cc pc = .ok (.putfield i, 3)) (L : Fp own i ci j .boolean) (hk : k < gn G) (hs : gS G k = .inr (ci, fs)) (hc : fs[j]? = some 2)
    (hv : 0 ≤ v ∧ v ≤ 1) (kk : Jw G X post (pc + 3) lv rest (up w k (j : Nat) v)) : Jw G X post pc lv (iv v :: .ref (ga G k) :: rest) w :=
  jr_putV F hd L hk hs hc (by show iv (up w k (j : Nat) v k (j : Nat)) = iv v; rw [up_self]) (nar_bool hv).1 (nar_bool hv).2 hv kk
theorem jr_putL (F : Fx G X own cc nL d ret) {i k ci j : Nat} {fs : List Nat} {v : Int} (hd : decode cc pc = .ok (.putfield i, 3)) (L : Fp own i ci j .long) (hk : k < gn G) (hs : gS G k = .inr (ci, fs)) (hc : fs[j]? = some 1)
    (hv : inL v) (kk : Jw G X post (pc + 3) lv rest (up w k (j : Nat) v)) : Jw G X post pc lv (lq v :: .ref (ga G k) :: rest) w :=
  jr_putV F hd L hk hs hc (by show lq (up w k (j : Nat) v k (j : Nat)) = lq v; rw [up_self]) rfl rfl hv kk
theorem jr_iald (F : Fx G X own cc nL d ret) {k n : Nat} {a : Int} (hd : decode cc pc = .ok (.iaload, 1)) (hk : k < gn G) (hs : gS G k = .inl (0, n)) (hn : n < 2147483648)
    (kk : inR (w k a) → Jw G X post (pc + 1) lv (iv (w k a) :: rest) w) (h0 : 0 ≤ a) (h1 : a < n) : Jw G X post pc lv (iv a :: .ref (ga G k) :: rest) w := by
  intro H locs ls hP hD hS hO hl
  have ha : inR a := by omega
  have h := kk (hO.1 k 0 n hs a h0 h1) H locs ls hP hD hS hO hl
  refine va_iald F.1 F.2.1 F.2.2.2.2.2.1 hP k 0 (by rw [cels_get hk, cel_A hs]) rfl (iv_in ha h0 h1) hd ?_
  rw [iv_clamp ha, Int.toNat_of_nonneg h0]
  exact h
theorem jr_bald (F : Fx G X own cc nL d ret) {k n : Nat} {a : Int} (hd : decode cc pc = .ok (.baload, 1)) (hk : k < gn G) (hs : gS G k = .inl (1, n)) (hn : n < 2147483648)
    (kk : (-128 ≤ w k a ∧ w k a ≤ 127) → Jw G X post (pc + 1) lv (iv (w k a) :: rest) w) (h0 : 0 ≤ a) (h1 : a < n) : Jw G X post pc lv (iv a :: .ref (ga G k) :: rest) w := by
  intro H locs ls hP hD hS hO hl
  have ha : inR a := by omega
  have h := kk (hO.1 k 1 n hs a h0 h1) H locs ls hP hD hS hO hl
  refine va_bald F.1 F.2.1 F.2.2.2.2.2.1 hP k 1 (by rw [cels_get hk, cel_A hs]) rfl (iv_in ha h0 h1) hd ?_
  rw [iv_clamp ha, Int.toNat_of_nonneg h0]
  exact h
theorem jr_zald (F : Fx G X own cc nL d ret) {k n : Nat} {a : Int} (hd : decode cc pc = .ok (.baload, 1)) (hk : k < gn G) (hs : gS G k = .inl (2, n)) (hn : n < 2147483648)
    (kk : (0 ≤ w k a ∧ w k a ≤ 1) → Jw G X post (pc + 1) lv (iv (w k a) :: rest) w) (h0 : 0 ≤ a) (h1 : a < n) : Jw G X post pc lv (iv a :: .ref (ga G k) :: rest) w := by
  intro H locs ls hP hD hS hO hl
  have ha : inR a := by omega
  have h := kk (hO.1 k 2 n hs a h0 h1) H locs ls hP hD hS hO hl
  refine va_zald F.1 F.2.1 F.2.2.2.2.2.1 hP k 2 (by rw [cels_get hk, cel_A hs]) rfl (iv_in ha h0 h1) hd ?_
  rw [iv_clamp ha, Int.toNat_of_nonneg h0]
  exact h
theorem cels_upA {k t n : Nat} {a v : Int} (hs : gS G k = .inl (t, n)) (h0 : 0 ≤ a) : (cels G w).set k (ga G k, .inl (gt G t, n, .inl (upd (fun j => Int32.ofInt (w k (j : Int))) a.toNat (Int32.ofInt v)))) = cels G (up w k a v) :=
  cels_upd (fun k' h => up_cell h) (by rw [cel_A hs, upd_arr h0])
theorem jr_iast (F : Fx G X own cc nL d ret) {k n : Nat} {a v : Int} (hd : decode cc pc = .ok (.iastore, 1)) (hk : k < gn G) (hs : gS G k = .inl (0, n)) (hn : n < 2147483648)
    (kk : Jw G X post (pc + 1) lv rest (up w k a v)) (h0 : 0 ≤ a) (h1 : a < n) (hv : inR v) : Jw G X post pc lv (iv v :: iv a :: .ref (ga G k) :: rest) w := by
  intro H locs ls hP hD hS hO hl
  have ha : inR a := by omega
  refine va_iast F.1 F.2.1 F.2.2.2.2.2.1 hP hD hS k 0 (by rw [cels_get hk, cel_A hs]) rfl (iv_in ha h0 h1) hd (fun H1 locs1 hP1 hD1 hS1 => ?_)
  rw [iv_clamp ha, cels_upA hs h0] at hP1 hD1
  exact kk H1 locs1 ls hP1 hD1 hS1 (hO.upA hs hv) hl
theorem nar_byte {v : Int} (h : -128 ≤ v ∧ v ≤ 127) : vp_nar .byte (Int32.ofInt v) = Int32.ofInt v := by
  rw [vp_nar_byte, Int32.toInt8_ofInt]
  exact Int32.toInt_inj.mp (by rw [Int8.toInt_toInt32, Int8.toInt_ofInt_of_le (by omega) (by omega), iv_toInt (by omega)])
theorem nar_bool2 {v : Int} (h : 0 ≤ v ∧ v ≤ 1) : vp_nar .boolean (Int32.ofInt v) = Int32.ofInt v := by
  rcases (show v = 0 ∨ v = 1 by omega) with rfl | rfl <;> decide
theorem jr_bast (F : Fx G X own cc nL d ret) {k n : Nat} {a v : Int} (hd : decode cc pc = .ok (.bastore, 1)) (hk : k < gn G) (hs : gS G k = .inl (1, n)) (hn : n < 2147483648)
    (kk : Jw G X post (pc + 1) lv rest (up w k a v)) (h0 : 0 ≤ a) (h1 : a < n) (hv : -128 ≤ v ∧ v ≤ 127) : Jw G X post pc lv (iv v :: iv a :: .ref (ga G k) :: rest) w := by
  intro H locs ls hP hD hS hO hl
  have ha : inR a := by omega
  refine va_bast F.1 F.2.1 F.2.2.2.2.2.1 hP hD hS k 1 (by rw [cels_get hk, cel_A hs]) rfl (iv_in ha h0 h1) hd (fun H1 locs1 hP1 hD1 hS1 => ?_)
  rw [nar_byte hv, iv_clamp ha, cels_upA hs h0] at hP1 hD1
  exact kk H1 locs1 ls hP1 hD1 hS1 (hO.upA hs hv) hl
theorem jr_zast (F : Fx G X own cc nL d ret) {k n : Nat} {a v : Int} (hd : decode cc pc = .ok (.bastore, 1)) (hk : k < gn G) (hs : gS G k = .inl (2, n)) (hn : n < 2147483648)
    (kk : Jw G X post (pc + 1) lv rest (up w k a v)) (h0 : 0 ≤ a) (h1 : a < n) (hv : 0 ≤ v ∧ v ≤ 1) : Jw G X post pc lv (iv v :: iv a :: .ref (ga G k) :: rest) w := by
  intro H locs ls hP hD hS hO hl
  have ha : inR a := by omega
  refine va_zast F.1 F.2.1 F.2.2.2.2.2.1 hP hD hS k 2 (by rw [cels_get hk, cel_A hs]) rfl (iv_in ha h0 h1) hd (fun H1 locs1 hP1 hD1 hS1 => ?_)
  rw [nar_bool2 hv, iv_clamp ha, cels_upA hs h0] at hP1 hD1
  exact kk H1 locs1 ls hP1 hD1 hS1 (hO.upA hs hv) hl
theorem jr_alen (F : Fx G X own cc nL d ret) {k n : Nat} (hd : decode cc pc = .ok (.arraylength, 1)) (hk : k < gn G) (hs : gS G k = .inl (0, n))
    (kk : Jw G X post (pc + 1) lv (iv (n : Int) :: rest) w) : Jw G X post pc lv (.ref (ga G k) :: rest) w := by
  intro H locs ls hP hD hS hO hl
  exact va_alen F.1 F.2.1 F.2.2.2.2.2.1 hP k 0 (by rw [cels_get hk, cel_A hs]) rfl (iv_nat n) hd (kk H locs ls hP hD hS hO hl)
/-! the ends -/
theorem jr_end (F : Fx G X own cc nL d ret) {v : Option Value} {H : Heap} {locs : List Loc} (hp : post v w) (hP : va_P (gD G) vwCl (cels G w) H) (hD : va_D (xA X) (cels G w)) (hS : va_S (xA X) (xs X).heap H locs) (hO : okW G w) (t : State) (ht : t.heap = H) (hW : (xs X).WarmedH t.vm) : Qg G post (xA X) (xa X) (xs X) (.returned v) t :=
  ⟨⟨v, w, rfl, hp, hO, by rw [ht]; exact hP, va_K.moved hW.alike F.2.2.2.2.2.1, hD⟩, hS.F ht⟩
theorem jr_iret (F : Fx G X own cc nL d (some .int)) {x : Int32} (hd : decode cc pc = .ok (.ireturn, 1)) (hp : post (some (.int x)) w) : Jw G X post pc lv [.int x] w := by
  intro H locs ls hP hD hS hO hl
  exact W.iret (hlocks := F.2.2.2.2.2.2.2.2.1) F.1 F.2.1 F.2.2.2.2.2.2.2.1 (fun t ht hW => jr_end F hp hP hD hS hO t ht hW) hS.2.2 hd
theorem jr_zret (F : Fx G X own cc nL d (some .boolean)) {a : Int} (hd : decode cc pc = .ok (.ireturn, 1)) (hp : post (some (iv a)) w) (ha : 0 ≤ a ∧ a ≤ 1) : Jw G X post pc lv [iv a] w := by
  intro H locs ls hP hD hS hO hl
  exact W.zret (hlocks := F.2.2.2.2.2.2.2.2.1) F.1 F.2.1 F.2.2.2.2.2.2.2.1 (nar_bool ha).1 (fun t ht hW => jr_end F hp hP hD hS hO t ht hW) hS.2.2 hd
theorem jr_lret (F : Fx G X own cc nL d (some .long)) {x : Int64} (hd : decode cc pc = .ok (.lreturn, 1)) (hp : post (some (.long x)) w) : Jw G X post pc lv [.long x] w := by
  intro H locs ls hP hD hS hO hl
  exact W.lret (hlocks := F.2.2.2.2.2.2.2.2.1) F.1 F.2.1 F.2.2.2.2.2.2.2.1 (fun t ht hW => jr_end F hp hP hD hS hO t ht hW) hS.2.2 hd
theorem jr_vret (F : Fx G X own cc nL d none) (hd : decode cc pc = .ok (.return_, 1)) (hp : post none w) : Jw G X post pc lv [] w := by
  intro H locs ls hP hD hS hO hl
  exact W.vret (hlocks := F.2.2.2.2.2.2.2.2.1) F.1 F.2.1 F.2.2.2.2.2.2.2.1 (fun t ht hW => jr_end F hp hP hD hS hO t ht hW) hS.2.2 hd
end JH
