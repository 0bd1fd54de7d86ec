/-! the two sides: their cells -/
abbrev Bs : Type := Launch × (Nat → Nat) × va_G × (Nat → ClassId)
def shXl : List Shp := [.inr (7, [4, 8, 11, 14, 17, 20, 21, 23, 0]), .inr (3, [5, 6, 7, 0, 0]), .inl (0, 60), .inl (0, 10), .inl (0, 5), .inr (6, [9, 10, 0, 0, 0]), .inl (0, 56), .inl (0, 24), .inr (6, [12, 13, 0, 0, 0]), .inl (0, 42), .inl (0, 18),
  .inr (4, [15, 16, 0]), .inl (0, 360), .inl (0, 6), .inr (4, [18, 19, 0]), .inl (0, 360), .inl (0, 6), .inr (5, [0, 0, 0, 0, 1, 1, 1]), .inr (2, [22, 0, 0, 0]), .inl (0, 60),
  .inr (1, [4, 8, 11, 24, 26, 28, 30, 31, 32, 33, 34, 35, 36, 0, 0, 0, 0, 2]), .inr (0, [25, 0]), .inl (0, 121), .inr (0, [27, 0]), .inl (0, 121), .inr (0, [29, 0]), .inl (0, 121), .inl (0, 3), .inl (0, 3), .inl (0, 3), .inl (0, 10), .inl (0, 10), .inl (0, 10), .inl (0, 10)]
def shX (k : Nat) : Shp := shXl.getD k (.inl (0, 0))
def shMl : List Shp := [.inr (8, [0, 4, 5, 6, 7, 8, 9, 10, 0, 11, 12, 0, 13, 14, 15, 16, 0, 17, 0, 0, 2, 18, 19, 20, 21, 0, 22, 23, 24, 25, 2, 26, 27, 1]), .inl (0, 10), .inl (0, 10), .inl (0, 10), .inl (0, 10), .inl (0, 10), .inl (0, 10), .inl (0, 10), .inl (0, 56), .inl (0, 24),
  .inl (1, 60), .inl (0, 2), .inl (1, 720), .inl (0, 12), .inl (0, 30), .inl (0, 4), .inl (2, 61), .inl (2, 61), .inl (2, 61), .inl (0, 121), .inl (0, 10), .inl (0, 10), .inl (0, 10), .inl (0, 10), .inl (0, 10)]
def shM (k : Nat) : Shp := shMl.getD k (.inl (0, 0))
abbrev GX (B : Bs) : Gc := (B.1, B.2.1, B.2.2.1, B.2.2.2, shX, 34)
abbrev GM (B : Bs) : Gc := (B.1, B.2.1, B.2.2.1, B.2.2.2, shM, 25)
/-! forms of ends -/
def pI (w' : Wd) (r : Int) : Option Value → Wd → Prop := fun v u => v = some (iv r) ∧ w' = u
def pL (w' : Wd) (r : Int) : Option Value → Wd → Prop := fun v u => v = some (lq r) ∧ w' = u
def pV (w' : Wd) : Option Value → Wd → Prop := fun v u => v = none ∧ w' = u
def pR (w' : Wd) (a : Nat) : Option Value → Wd → Prop := fun v u => v = some (.ref a) ∧ w' = u
def pE (R : Int → Wd → Prop) : Option Value → Wd → Prop := fun v u => ∃ r : Int, v = some (iv r) ∧ R r u
def pU (R : Wd → Prop) : Option Value → Wd → Prop := fun v u => v = none ∧ R u
theorem pI_of {w w' : Wd} {a r : Int} (h : a = r) (hw : w' = w) : pI w' r (some (iv a)) w := ⟨by rw [h], hw⟩
theorem pL_of {w w' : Wd} {a r : Int} (h : a = r) (hw : w' = w) : pL w' r (some (lq a)) w := ⟨by rw [h], hw⟩
theorem pE_of {w : Wd} {r : Int} {R : Int → Wd → Prop} (h : R r w) : pE R (some (iv r)) w := ⟨r, rfl, h⟩
theorem Jw.cast {G : Gc} {X : Xc} {post : Option Value → Wd → Prop} {pc : Nat} {lv lv' : List (Option Value)} {st st' : List Value} {w w' : Wd} (k : Jw G X post pc lv st w) (h1 : lv = lv') (h2 : st = st') (h3 : w = w') : Jw G X post pc lv' st' w' := by subst h1; subst h2; subst h3; exact k
/-- fewer known locals -/
def lvle : List (Option Value) → List (Option Value) → Prop
  | [], _ => True
  | none :: t, l => lvle t l.tail
  | some v :: t, l => lg l 0 = some v ∧ lvle t l.tail
theorem lg_tail (l : List (Option Value)) (i : Nat) : lg l.tail i = lg l (i + 1) := by cases l <;> simp [lg, lg_nil]
theorem lvle_lg : ∀ (a b : List (Option Value)), lvle a b → ∀ i v, lg a i = some v → lg b i = some v
  | [], _, _, i, v, h => by simp [lg_nil] at h
  | none :: t, b, h, 0, v, e => by simp [lg] at e
  | none :: t, b, h, i + 1, v, e => by rw [← lg_tail]; exact lvle_lg t b.tail h i v e
  | some u :: t, b, h, 0, v, e => by simp only [lg, Option.some.injEq] at e; rw [← e]; exact h.1
  | some u :: t, b, h, i + 1, v, e => by rw [← lg_tail]; exact lvle_lg t b.tail h.2 i v e
theorem jr_sub {G : Gc} {X : Xc} {post : Option Value → Wd → Prop} {pc : Nat} {lv lv' : List (Option Value)} {st : List Value} {w : Wd} (k : Jw G X post pc lv' st w) (h : lvle lv' lv) : Jw G X post pc lv st w :=
  fun H locs ls hP hD hS hO hl => k H locs ls hP hD hS hO ⟨hl.1, hl.2.1, fun i v e => hl.2.2 i v (lvle_lg lv' lv h i v e)⟩
section JT
variable {G : Gc} {X : Xc} {own : String} {cc : ByteArray} {nL d : Nat} {ret : Option FieldType} {post : Option Value → Wd → Prop} {pc : Nat} {lv : List (Option Value)} {st rest : List Value} {w : Wd}
theorem jr_vI (F : Fx G X own cc nL d ret) {i k ci d' nL' n : Nat} {y : MethodName} {b : ByteArray} {ret' : Option FieldType} {fs : List Nat} {As : List Value} {q : vw_C} {w' : Wd} {r : Int} (hd : decode cc pc = .ok (.invokevirtual i, 3)) (L : Cv own i y b nL' ret' n)
    (hc : Sp G d' y b nL' ret' (.ref (ga G k) :: As) w (pI w' r)) (hk : k < gn G) (hs : gS G k = .inr (ci, fs)) (hq : vwCl[ci]? = some q) (hqc : q.1 = y.cls) (hn : As.length = n) (hdd : d' + 1 ≤ d) (hml : nL' ≤ 21) (hst : st = As.reverse ++ .ref (ga G k) :: rest) (hcat : (rest.map fun v => v.category).sum ≤ 8)
    (kk : Jw G X post (pc + 3) lv (iv r :: rest) w') : Jw G X post pc lv st w := jr_callV F hd L hc hk hs hq hqc hn hdd hml hst hcat (fun v u h => by obtain ⟨rfl, rfl⟩ := h; exact kk)
theorem jr_sI (F : Fx G X own cc nL d ret) {i d' nL' n : Nat} {y : MethodName} {b : ByteArray} {ret' : Option FieldType} {As : List Value} {w' : Wd} {r : Int} (hd : decode cc pc = .ok (.invokestatic i, 3)) (L : Cs own i y b nL' ret' n)
    (hc : Sp G d' y b nL' ret' As w (pI w' r)) (hn : As.length = n) (hdd : d' + 1 ≤ d) (hml : nL' ≤ 21) (hst : st = As.reverse ++ rest) (hcat : (rest.map fun v => v.category).sum ≤ 8)
    (kk : Jw G X post (pc + 3) lv (iv r :: rest) w') : Jw G X post pc lv st w := jr_callS F hd L hc hn hdd hml hst hcat (fun v u h => by obtain ⟨rfl, rfl⟩ := h; exact kk)
theorem jr_nI (F : Fx G X own cc nL d ret) {i d' nL' n : Nat} {y : MethodName} {b : ByteArray} {ret' : Option FieldType} {As : List Value} {w' : Wd} {r : Int} (hd : decode cc pc = .ok (.invokestatic i, 3)) (L : Cn own i y b nL' ret' n)
    (hc : Sp G d' y b nL' ret' As w (pI w' r)) (hn : As.length = n) (hdd : d' + 1 ≤ d) (hml : nL' ≤ 21) (hst : st = As.reverse ++ rest) (hcat : (rest.map fun v => v.category).sum ≤ 8)
    (kk : Jw G X post (pc + 3) lv (iv r :: rest) w') : Jw G X post pc lv st w := jr_callN F hd L hc hn hdd hml hst hcat (fun v u h => by obtain ⟨rfl, rfl⟩ := h; exact kk)
theorem jr_vL (F : Fx G X own cc nL d ret) {i k ci d' nL' n : Nat} {y : MethodName} {b : ByteArray} {ret' : Option FieldType} {fs : List Nat} {As : List Value} {q : vw_C} {w' : Wd} {r : Int} (hd : decode cc pc = .ok (.invokevirtual i, 3)) (L : Cv own i y b nL' ret' n)
    (hc : Sp G d' y b nL' ret' (.ref (ga G k) :: As) w (pL w' r)) (hk : k < gn G) (hs : gS G k = .inr (ci, fs)) (hq : vwCl[ci]? = some q) (hqc : q.1 = y.cls) (hn : As.length = n) (hdd : d' + 1 ≤ d) (hml : nL' ≤ 21) (hst : st = As.reverse ++ .ref (ga G k) :: rest) (hcat : (rest.map fun v => v.category).sum ≤ 8)
    (kk : Jw G X post (pc + 3) lv (lq r :: rest) w') : Jw G X post pc lv st w := jr_callV F hd L hc hk hs hq hqc hn hdd hml hst hcat (fun v u h => by obtain ⟨rfl, rfl⟩ := h; exact kk)
theorem jr_sL (F : Fx G X own cc nL d ret) {i d' nL' n : Nat} {y : MethodName} {b : ByteArray} {ret' : Option FieldType} {As : List Value} {w' : Wd} {r : Int} (hd : decode cc pc = .ok (.invokestatic i, 3)) (L : Cs own i y b nL' ret' n)
    (hc : Sp G d' y b nL' ret' As w (pL w' r)) (hn : As.length = n) (hdd : d' + 1 ≤ d) (hml : nL' ≤ 21) (hst : st = As.reverse ++ rest) (hcat : (rest.map fun v => v.category).sum ≤ 8)
    (kk : Jw G X post (pc + 3) lv (lq r :: rest) w') : Jw G X post pc lv st w := jr_callS F hd L hc hn hdd hml hst hcat (fun v u h => by obtain ⟨rfl, rfl⟩ := h; exact kk)
theorem jr_nL (F : Fx G X own cc nL d ret) {i d' nL' n : Nat} {y : MethodName} {b : ByteArray} {ret' : Option FieldType} {As : List Value} {w' : Wd} {r : Int} (hd : decode cc pc = .ok (.invokestatic i, 3)) (L : Cn own i y b nL' ret' n)
    (hc : Sp G d' y b nL' ret' As w (pL w' r)) (hn : As.length = n) (hdd : d' + 1 ≤ d) (hml : nL' ≤ 21) (hst : st = As.reverse ++ rest) (hcat : (rest.map fun v => v.category).sum ≤ 8)
    (kk : Jw G X post (pc + 3) lv (lq r :: rest) w') : Jw G X post pc lv st w := jr_callN F hd L hc hn hdd hml hst hcat (fun v u h => by obtain ⟨rfl, rfl⟩ := h; exact kk)
theorem jr_vR (F : Fx G X own cc nL d ret) {i k ci d' nL' n : Nat} {y : MethodName} {b : ByteArray} {ret' : Option FieldType} {fs : List Nat} {As : List Value} {q : vw_C} {w' : Wd} {a : Nat} (hd : decode cc pc = .ok (.invokevirtual i, 3)) (L : Cv own i y b nL' ret' n)
    (hc : Sp G d' y b nL' ret' (.ref (ga G k) :: As) w (pR w' a)) (hk : k < gn G) (hs : gS G k = .inr (ci, fs)) (hq : vwCl[ci]? = some q) (hqc : q.1 = y.cls) (hn : As.length = n) (hdd : d' + 1 ≤ d) (hml : nL' ≤ 21) (hst : st = As.reverse ++ .ref (ga G k) :: rest) (hcat : (rest.map fun v => v.category).sum ≤ 8)
    (kk : Jw G X post (pc + 3) lv (.ref a :: rest) w') : Jw G X post pc lv st w := jr_callV F hd L hc hk hs hq hqc hn hdd hml hst hcat (fun v u h => by obtain ⟨rfl, rfl⟩ := h; exact kk)
theorem jr_sR (F : Fx G X own cc nL d ret) {i d' nL' n : Nat} {y : MethodName} {b : ByteArray} {ret' : Option FieldType} {As : List Value} {w' : Wd} {a : Nat} (hd : decode cc pc = .ok (.invokestatic i, 3)) (L : Cs own i y b nL' ret' n)
    (hc : Sp G d' y b nL' ret' As w (pR w' a)) (hn : As.length = n) (hdd : d' + 1 ≤ d) (hml : nL' ≤ 21) (hst : st = As.reverse ++ rest) (hcat : (rest.map fun v => v.category).sum ≤ 8)
    (kk : Jw G X post (pc + 3) lv (.ref a :: rest) w') : Jw G X post pc lv st w := jr_callS F hd L hc hn hdd hml hst hcat (fun v u h => by obtain ⟨rfl, rfl⟩ := h; exact kk)
theorem jr_nR (F : Fx G X own cc nL d ret) {i d' nL' n : Nat} {y : MethodName} {b : ByteArray} {ret' : Option FieldType} {As : List Value} {w' : Wd} {a : Nat} (hd : decode cc pc = .ok (.invokestatic i, 3)) (L : Cn own i y b nL' ret' n)
    (hc : Sp G d' y b nL' ret' As w (pR w' a)) (hn : As.length = n) (hdd : d' + 1 ≤ d) (hml : nL' ≤ 21) (hst : st = As.reverse ++ rest) (hcat : (rest.map fun v => v.category).sum ≤ 8)
    (kk : Jw G X post (pc + 3) lv (.ref a :: rest) w') : Jw G X post pc lv st w := jr_callN F hd L hc hn hdd hml hst hcat (fun v u h => by obtain ⟨rfl, rfl⟩ := h; exact kk)
theorem jr_vV (F : Fx G X own cc nL d ret) {i k ci d' nL' n : Nat} {y : MethodName} {b : ByteArray} {ret' : Option FieldType} {fs : List Nat} {As : List Value} {q : vw_C} {w' : Wd} (hd : decode cc pc = .ok (.invokevirtual i, 3)) (L : Cv own i y b nL' ret' n)
    (hc : Sp G d' y b nL' ret' (.ref (ga G k) :: As) w (pV w')) (hk : k < gn G) (hs : gS G k = .inr (ci, fs)) (hq : vwCl[ci]? = some q) (hqc : q.1 = y.cls) (hn : As.length = n) (hdd : d' + 1 ≤ d) (hml : nL' ≤ 21) (hst : st = As.reverse ++ .ref (ga G k) :: rest) (hcat : (rest.map fun v => v.category).sum ≤ 8)
    (kk : Jw G X post (pc + 3) lv rest w') : Jw G X post pc lv st w := jr_callV F hd L hc hk hs hq hqc hn hdd hml hst hcat (fun v u h => by obtain ⟨rfl, rfl⟩ := h; exact kk)
theorem jr_sV (F : Fx G X own cc nL d ret) {i d' nL' n : Nat} {y : MethodName} {b : ByteArray} {ret' : Option FieldType} {As : List Value} {w' : Wd} (hd : decode cc pc = .ok (.invokestatic i, 3)) (L : Cs own i y b nL' ret' n)
    (hc : Sp G d' y b nL' ret' As w (pV w')) (hn : As.length = n) (hdd : d' + 1 ≤ d) (hml : nL' ≤ 21) (hst : st = As.reverse ++ rest) (hcat : (rest.map fun v => v.category).sum ≤ 8)
    (kk : Jw G X post (pc + 3) lv rest w') : Jw G X post pc lv st w := jr_callS F hd L hc hn hdd hml hst hcat (fun v u h => by obtain ⟨rfl, rfl⟩ := h; exact kk)
theorem jr_nV (F : Fx G X own cc nL d ret) {i d' nL' n : Nat} {y : MethodName} {b : ByteArray} {ret' : Option FieldType} {As : List Value} {w' : Wd} (hd : decode cc pc = .ok (.invokestatic i, 3)) (L : Cn own i y b nL' ret' n)
    (hc : Sp G d' y b nL' ret' As w (pV w')) (hn : As.length = n) (hdd : d' + 1 ≤ d) (hml : nL' ≤ 21) (hst : st = As.reverse ++ rest) (hcat : (rest.map fun v => v.category).sum ≤ 8)
    (kk : Jw G X post (pc + 3) lv rest w') : Jw G X post pc lv st w := jr_callN F hd L hc hn hdd hml hst hcat (fun v u h => by obtain ⟨rfl, rfl⟩ := h; exact kk)
theorem jr_vE (F : Fx G X own cc nL d ret) {i k ci d' nL' n : Nat} {y : MethodName} {b : ByteArray} {ret' : Option FieldType} {fs : List Nat} {As : List Value} {q : vw_C} {R : Int → Wd → Prop} (hd : decode cc pc = .ok (.invokevirtual i, 3)) (L : Cv own i y b nL' ret' n)
    (hc : Sp G d' y b nL' ret' (.ref (ga G k) :: As) w (pE R)) (hk : k < gn G) (hs : gS G k = .inr (ci, fs)) (hq : vwCl[ci]? = some q) (hqc : q.1 = y.cls) (hn : As.length = n) (hdd : d' + 1 ≤ d) (hml : nL' ≤ 21) (hst : st = As.reverse ++ .ref (ga G k) :: rest) (hcat : (rest.map fun v => v.category).sum ≤ 8)
    (kk : ∀ (r : Int) (u : Wd), R r u → Jw G X post (pc + 3) lv (iv r :: rest) u) : Jw G X post pc lv st w := jr_callV F hd L hc hk hs hq hqc hn hdd hml hst hcat (fun v u h => by obtain ⟨r, rfl, h⟩ := h; exact kk r u h)
theorem jr_sE (F : Fx G X own cc nL d ret) {i d' nL' n : Nat} {y : MethodName} {b : ByteArray} {ret' : Option FieldType} {As : List Value} {R : Int → Wd → Prop} (hd : decode cc pc = .ok (.invokestatic i, 3)) (L : Cs own i y b nL' ret' n)
    (hc : Sp G d' y b nL' ret' As w (pE R)) (hn : As.length = n) (hdd : d' + 1 ≤ d) (hml : nL' ≤ 21) (hst : st = As.reverse ++ rest) (hcat : (rest.map fun v => v.category).sum ≤ 8)
    (kk : ∀ (r : Int) (u : Wd), R r u → Jw G X post (pc + 3) lv (iv r :: rest) u) : Jw G X post pc lv st w := jr_callS F hd L hc hn hdd hml hst hcat (fun v u h => by obtain ⟨r, rfl, h⟩ := h; exact kk r u h)
theorem jr_nE (F : Fx G X own cc nL d ret) {i d' nL' n : Nat} {y : MethodName} {b : ByteArray} {ret' : Option FieldType} {As : List Value} {R : Int → Wd → Prop} (hd : decode cc pc = .ok (.invokestatic i, 3)) (L : Cn own i y b nL' ret' n)
    (hc : Sp G d' y b nL' ret' As w (pE R)) (hn : As.length = n) (hdd : d' + 1 ≤ d) (hml : nL' ≤ 21) (hst : st = As.reverse ++ rest) (hcat : (rest.map fun v => v.category).sum ≤ 8)
    (kk : ∀ (r : Int) (u : Wd), R r u → Jw G X post (pc + 3) lv (iv r :: rest) u) : Jw G X post pc lv st w := jr_callN F hd L hc hn hdd hml hst hcat (fun v u h => by obtain ⟨r, rfl, h⟩ := h; exact kk r u h)
theorem jr_vU (F : Fx G X own cc nL d ret) {i k ci d' nL' n : Nat} {y : MethodName} {b : ByteArray} {ret' : Option FieldType} {fs : List Nat} {As : List Value} {q : vw_C} {R : Wd → Prop} (hd : decode cc pc = .ok (.invokevirtual i, 3)) (L : Cv own i y b nL' ret' n)
    (hc : Sp G d' y b nL' ret' (.ref (ga G k) :: As) w (pU R)) (hk : k < gn G) (hs : gS G k = .inr (ci, fs)) (hq : vwCl[ci]? = some q) (hqc : q.1 = y.cls) (hn : As.length = n) (hdd : d' + 1 ≤ d) (hml : nL' ≤ 21) (hst : st = As.reverse ++ .ref (ga G k) :: rest) (hcat : (rest.map fun v => v.category).sum ≤ 8)
    (kk : ∀ u : Wd, R u → Jw G X post (pc + 3) lv rest u) : Jw G X post pc lv st w := jr_callV F hd L hc hk hs hq hqc hn hdd hml hst hcat (fun v u h => by obtain ⟨rfl, h⟩ := h; exact kk u h)
theorem jr_sU (F : Fx G X own cc nL d ret) {i d' nL' n : Nat} {y : MethodName} {b : ByteArray} {ret' : Option FieldType} {As : List Value} {R : Wd → Prop} (hd : decode cc pc = .ok (.invokestatic i, 3)) (L : Cs own i y b nL' ret' n)
    (hc : Sp G d' y b nL' ret' As w (pU R)) (hn : As.length = n) (hdd : d' + 1 ≤ d) (hml : nL' ≤ 21) (hst : st = As.reverse ++ rest) (hcat : (rest.map fun v => v.category).sum ≤ 8)
    (kk : ∀ u : Wd, R u → Jw G X post (pc + 3) lv rest u) : Jw G X post pc lv st w := jr_callS F hd L hc hn hdd hml hst hcat (fun v u h => by obtain ⟨rfl, h⟩ := h; exact kk u h)
theorem jr_nU (F : Fx G X own cc nL d ret) {i d' nL' n : Nat} {y : MethodName} {b : ByteArray} {ret' : Option FieldType} {As : List Value} {R : Wd → Prop} (hd : decode cc pc = .ok (.invokestatic i, 3)) (L : Cn own i y b nL' ret' n)
    (hc : Sp G d' y b nL' ret' As w (pU R)) (hn : As.length = n) (hdd : d' + 1 ≤ d) (hml : nL' ≤ 21) (hst : st = As.reverse ++ rest) (hcat : (rest.map fun v => v.category).sum ≤ 8)
    (kk : ∀ u : Wd, R u → Jw G X post (pc + 3) lv rest u) : Jw G X post pc lv st w := jr_callN F hd L hc hn hdd hml hst hcat (fun v u h => by obtain ⟨rfl, h⟩ := h; exact kk u h)
end JT
/-! the row of places that a method looks at before it reads or writes -/
noncomputable def rd (w : Wd) (k : Nat) (n i : Int) : Int := @ite _ (0 ≤ i ∧ i < n) (Classical.propDecidable _) (w k i) (-1)
noncomputable def wr (w : Wd) (k : Nat) (n i v : Int) : Wd := @ite _ (0 ≤ i ∧ i < n) (Classical.propDecidable _) (up w k i v) w
theorem rd_in {w : Wd} {k : Nat} {n i : Int} (h0 : 0 ≤ i) (h1 : i < n) : rd w k n i = w k i := by unfold rd; rw [if_pos ⟨h0, h1⟩]
theorem rd_out {w : Wd} {k : Nat} {n i : Int} (h : ¬ (0 ≤ i ∧ i < n)) : rd w k n i = -1 := by unfold rd; rw [if_neg h]
theorem wr_in {w : Wd} {k : Nat} {n i v : Int} (h0 : 0 ≤ i) (h1 : i < n) : wr w k n i v = up w k i v := by unfold wr; rw [if_pos ⟨h0, h1⟩]
theorem wr_out {w : Wd} {k : Nat} {n i v : Int} (h : ¬ (0 ≤ i ∧ i < n)) : wr w k n i v = w := by unfold wr; rw [if_neg h]
/-! the same rows, the value told and the new world named -/
section JN
variable {G : Gc} {X : Xc} {own : String} {cc : ByteArray} {nL d : Nat} {ret : Option FieldType} {post : Option Value → Wd → Prop} {pc : Nat} {lv : List (Option Value)} {st rest : List Value} {w : Wd}
theorem jr_getIx (F : Fx G X own cc nL d ret) (x : Int) {i k ci j : Nat} {fs : List Nat} (hd : decode cc pc = .ok (.getfield i, 3)) (L : Fg own i ci j) (hk : k < gn G) (hs : gS G k = .inr (ci, fs)) (hc : fs[j]? = some 0) (hx : w k (j : Nat) = x)
    (kk : inR x → Jw G X post (pc + 3) lv (iv x :: rest) w) : Jw G X post pc lv (.ref (ga G k) :: rest) w := by subst hx; exact jr_getI F hd L hk hs hc kk
theorem jr_getZx (F : Fx G X own cc nL d ret) (x : Int) {i k ci j : Nat} {fs : List Nat} (hd : decode cc pc = .ok (.getfield i, 3)) (L : Fg own i ci j) (hk : k < gn G) (hs : gS G k = .inr (ci, fs)) (hc : fs[j]? = some 2) (hx : w k (j : Nat) = x)
    (kk : (0 ≤ x ∧ x ≤ 1) → Jw G X post (pc + 3) lv (iv x :: rest) w) : Jw G X post pc lv (.ref (ga G k) :: rest) w := by subst hx; exact jr_getZ F hd L hk hs hc kk
theorem jr_getLx (F : Fx G X own cc nL d ret) (x : Int) {i k ci j : Nat} {fs : List Nat} (hd : decode cc pc = .ok (.getfield i, 3)) (L : Fg own i ci j) (hk : k < gn G) (hs : gS G k = .inr (ci, fs)) (hc : fs[j]? = some 1) (hx : w k (j : Nat) = x)
    (kk : inL x → Jw G X post (pc + 3) lv (lq x :: rest) w) : Jw G X post pc lv (.ref (ga G k) :: rest) w := by subst hx; exact jr_getL F hd L hk hs hc kk
theorem jr_putIx (F : Fx G X own cc nL d ret) {i k ci j : Nat} {fs : List Nat} {v : Int} (hd : decode cc pc = .ok (.putfield i, 3)) (L : Fp own i ci j .int) (hk : k < gn G) (hs : gS G k = .inr (ci, fs)) (hc : fs[j]? = some 0)
    (hv : inR v) (kk : ∀ u : Wd, u = up w k (j : Nat) v → Jw G X post (pc + 3) lv rest u) : Jw G X post pc lv (iv v :: .ref (ga G k) :: rest) w := jr_putI F hd L hk hs hc hv (kk _ rfl)
theorem jr_putZx (F : Fx G X own cc nL d ret) {i k ci j : Nat} {fs : List Nat} {v : Int} (hd : decode cc pc = .ok (.putfield i, 3)) (L : Fp own i ci j .boolean) (hk : k < gn G) (hs : gS G k = .inr (ci, fs)) (hc : fs[j]? = some 2)
    (hv : 0 ≤ v ∧ v ≤ 1) (kk : ∀ u : Wd, u = up w k (j : Nat) v → Jw G X post (pc + 3) lv rest u) : Jw G X post pc lv (iv v :: .ref (ga G k) :: rest) w := jr_putZ F hd L hk hs hc hv (kk _ rfl)
theorem jr_putLx (F : Fx G X own cc nL d ret) {i k ci j : Nat} {fs : List Nat} {v : Int} (hd : decode cc pc = .ok (.putfield i, 3)) (L : Fp own i ci j .long) (hk : k < gn G) (hs : gS G k = .inr (ci, fs)) (hc : fs[j]? = some 1)
    (hv : inL v) (kk : ∀ u : Wd, u = up w k (j : Nat) v → Jw G X post (pc + 3) lv rest u) : Jw G X post pc lv (lq v :: .ref (ga G k) :: rest) w := jr_putL F hd L hk hs hc hv (kk _ rfl)
theorem jr_iastx (F : Fx G X own cc nL d ret) {k n : Nat} {a v : Int} (hd : decode cc pc = .ok (.iastore, 1)) (hk : k < gn G) (hs : gS G k = .inl (0, n)) (hn : n < 2147483648)
    (kk : ∀ u : Wd, u = up w k a v → Jw G X post (pc + 1) lv rest u) (h0 : 0 ≤ a) (h1 : a < n) (hv : inR v) : Jw G X post pc lv (iv v :: iv a :: .ref (ga G k) :: rest) w := jr_iast F hd hk hs hn (kk _ rfl) h0 h1 hv
theorem jr_bastx (F : Fx G X own cc nL d ret) {k n : Nat} {a v : Int} (hd : decode cc pc = .ok (.bastore, 1)) (hk : k < gn G) (hs : gS G k = .inl (1, n)) (hn : n < 2147483648)
    (kk : ∀ u : Wd, u = up w k a v → Jw G X post (pc + 1) lv rest u) (h0 : 0 ≤ a) (h1 : a < n) (hv : -128 ≤ v ∧ v ≤ 127) : Jw G X post pc lv (iv v :: iv a :: .ref (ga G k) :: rest) w := jr_bast F hd hk hs hn (kk _ rfl) h0 h1 hv
theorem jr_zastx (F : Fx G X own cc nL d ret) {k n : Nat} {a v : Int} (hd : decode cc pc = .ok (.bastore, 1)) (hk : k < gn G) (hs : gS G k = .inl (2, n)) (hn : n < 2147483648)
    (kk : ∀ u : Wd, u = up w k a v → Jw G X post (pc + 1) lv rest u) (h0 : 0 ≤ a) (h1 : a < n) (hv : 0 ≤ v ∧ v ≤ 1) : Jw G X post pc lv (iv v :: iv a :: .ref (ga G k) :: rest) w := jr_zast F hd hk hs hn (kk _ rfl) h0 h1 hv
theorem jr_vIx (F : Fx G X own cc nL d ret) {i k ci d' nL' n : Nat} {y : MethodName} {b : ByteArray} {ret' : Option FieldType} {fs : List Nat} {As : List Value} {q : vw_C} {w' : Wd} {r : Int} (hd : decode cc pc = .ok (.invokevirtual i, 3)) (L : Cv own i y b nL' ret' n)
    (hc : Sp G d' y b nL' ret' (.ref (ga G k) :: As) w (pI w' r)) (hk : k < gn G) (hs : gS G k = .inr (ci, fs)) (hq : vwCl[ci]? = some q) (hqc : q.1 = y.cls) (hn : As.length = n) (hdd : d' + 1 ≤ d) (hml : nL' ≤ 21) (hst : st = As.reverse ++ .ref (ga G k) :: rest) (hcat : (rest.map fun v => v.category).sum ≤ 8)
    (kk : ∀ u : Wd, u = w' → Jw G X post (pc + 3) lv (iv r :: rest) u) : Jw G X post pc lv st w := jr_vI F hd L hc hk hs hq hqc hn hdd hml hst hcat (kk _ rfl)
theorem jr_sIx (F : Fx G X own cc nL d ret) {i d' nL' n : Nat} {y : MethodName} {b : ByteArray} {ret' : Option FieldType} {As : List Value} {w' : Wd} {r : Int} (hd : decode cc pc = .ok (.invokestatic i, 3)) (L : Cs own i y b nL' ret' n)
    (hc : Sp G d' y b nL' ret' As w (pI w' r)) (hn : As.length = n) (hdd : d' + 1 ≤ d) (hml : nL' ≤ 21) (hst : st = As.reverse ++ rest) (hcat : (rest.map fun v => v.category).sum ≤ 8)
    (kk : ∀ u : Wd, u = w' → Jw G X post (pc + 3) lv (iv r :: rest) u) : Jw G X post pc lv st w := jr_sI F hd L hc hn hdd hml hst hcat (kk _ rfl)
theorem jr_nIx (F : Fx G X own cc nL d ret) {i d' nL' n : Nat} {y : MethodName} {b : ByteArray} {ret' : Option FieldType} {As : List Value} {w' : Wd} {r : Int} (hd : decode cc pc = .ok (.invokestatic i, 3)) (L : Cn own i y b nL' ret' n)
    (hc : Sp G d' y b nL' ret' As w (pI w' r)) (hn : As.length = n) (hdd : d' + 1 ≤ d) (hml : nL' ≤ 21) (hst : st = As.reverse ++ rest) (hcat : (rest.map fun v => v.category).sum ≤ 8)
    (kk : ∀ u : Wd, u = w' → Jw G X post (pc + 3) lv (iv r :: rest) u) : Jw G X post pc lv st w := jr_nI F hd L hc hn hdd hml hst hcat (kk _ rfl)
theorem jr_vVx (F : Fx G X own cc nL d ret) {i k ci d' nL' n : Nat} {y : MethodName} {b : ByteArray} {ret' : Option FieldType} {fs : List Nat} {As : List Value} {q : vw_C} {w' : Wd} (hd : decode cc pc = .ok (.invokevirtual i, 3)) (L : Cv own i y b nL' ret' n)
    (hc : Sp G d' y b nL' ret' (.ref (ga G k) :: As) w (pV w')) (hk : k < gn G) (hs : gS G k = .inr (ci, fs)) (hq : vwCl[ci]? = some q) (hqc : q.1 = y.cls) (hn : As.length = n) (hdd : d' + 1 ≤ d) (hml : nL' ≤ 21) (hst : st = As.reverse ++ .ref (ga G k) :: rest) (hcat : (rest.map fun v => v.category).sum ≤ 8)
    (kk : ∀ u : Wd, u = w' → Jw G X post (pc + 3) lv rest u) : Jw G X post pc lv st w := jr_vV F hd L hc hk hs hq hqc hn hdd hml hst hcat (kk _ rfl)
theorem jr_sVx (F : Fx G X own cc nL d ret) {i d' nL' n : Nat} {y : MethodName} {b : ByteArray} {ret' : Option FieldType} {As : List Value} {w' : Wd} (hd : decode cc pc = .ok (.invokestatic i, 3)) (L : Cs own i y b nL' ret' n)
    (hc : Sp G d' y b nL' ret' As w (pV w')) (hn : As.length = n) (hdd : d' + 1 ≤ d) (hml : nL' ≤ 21) (hst : st = As.reverse ++ rest) (hcat : (rest.map fun v => v.category).sum ≤ 8)
    (kk : ∀ u : Wd, u = w' → Jw G X post (pc + 3) lv rest u) : Jw G X post pc lv st w := jr_sV F hd L hc hn hdd hml hst hcat (kk _ rfl)
theorem jr_nVx (F : Fx G X own cc nL d ret) {i d' nL' n : Nat} {y : MethodName} {b : ByteArray} {ret' : Option FieldType} {As : List Value} {w' : Wd} (hd : decode cc pc = .ok (.invokestatic i, 3)) (L : Cn own i y b nL' ret' n)
    (hc : Sp G d' y b nL' ret' As w (pV w')) (hn : As.length = n) (hdd : d' + 1 ≤ d) (hml : nL' ≤ 21) (hst : st = As.reverse ++ rest) (hcat : (rest.map fun v => v.category).sum ≤ 8)
    (kk : ∀ u : Wd, u = w' → Jw G X post (pc + 3) lv rest u) : Jw G X post pc lv st w := jr_nV F hd L hc hn hdd hml hst hcat (kk _ rfl)
theorem jr_vLx (F : Fx G X own cc nL d ret) {i k ci d' nL' n : Nat} {y : MethodName} {b : ByteArray} {ret' : Option FieldType} {fs : List Nat} {As : List Value} {q : vw_C} {w' : Wd} {r : Int} (hd : decode cc pc = .ok (.invokevirtual i, 3)) (L : Cv own i y b nL' ret' n)
    (hc : Sp G d' y b nL' ret' (.ref (ga G k) :: As) w (pL w' r)) (hk : k < gn G) (hs : gS G k = .inr (ci, fs)) (hq : vwCl[ci]? = some q) (hqc : q.1 = y.cls) (hn : As.length = n) (hdd : d' + 1 ≤ d) (hml : nL' ≤ 21) (hst : st = As.reverse ++ .ref (ga G k) :: rest) (hcat : (rest.map fun v => v.category).sum ≤ 8)
    (kk : ∀ u : Wd, u = w' → Jw G X post (pc + 3) lv (lq r :: rest) u) : Jw G X post pc lv st w := jr_vL F hd L hc hk hs hq hqc hn hdd hml hst hcat (kk _ rfl)
theorem jr_sLx (F : Fx G X own cc nL d ret) {i d' nL' n : Nat} {y : MethodName} {b : ByteArray} {ret' : Option FieldType} {As : List Value} {w' : Wd} {r : Int} (hd : decode cc pc = .ok (.invokestatic i, 3)) (L : Cs own i y b nL' ret' n)
    (hc : Sp G d' y b nL' ret' As w (pL w' r)) (hn : As.length = n) (hdd : d' + 1 ≤ d) (hml : nL' ≤ 21) (hst : st = As.reverse ++ rest) (hcat : (rest.map fun v => v.category).sum ≤ 8)
    (kk : ∀ u : Wd, u = w' → Jw G X post (pc + 3) lv (lq r :: rest) u) : Jw G X post pc lv st w := jr_sL F hd L hc hn hdd hml hst hcat (kk _ rfl)
theorem jr_nLx (F : Fx G X own cc nL d ret) {i d' nL' n : Nat} {y : MethodName} {b : ByteArray} {ret' : Option FieldType} {As : List Value} {w' : Wd} {r : Int} (hd : decode cc pc = .ok (.invokestatic i, 3)) (L : Cn own i y b nL' ret' n)
    (hc : Sp G d' y b nL' ret' As w (pL w' r)) (hn : As.length = n) (hdd : d' + 1 ≤ d) (hml : nL' ≤ 21) (hst : st = As.reverse ++ rest) (hcat : (rest.map fun v => v.category).sum ≤ 8)
    (kk : ∀ u : Wd, u = w' → Jw G X post (pc + 3) lv (lq r :: rest) u) : Jw G X post pc lv st w := jr_nL F hd L hc hn hdd hml hst hcat (kk _ rfl)
end JN
