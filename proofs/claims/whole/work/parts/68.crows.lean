/-! the walk of a constructor: its cells one by one -/
abbrev tys (t : Nat → ClassId) : List (ClassId × FieldType) := [(t 0, .int), (t 1, .byte), (t 2, .boolean)]
abbrev aZ (c : ClassId) (n : Nat) : va_E := .inl (c, (n, .inl (fun _ => 0)))
def KW (l : Launch) (D : va_G) (X : Xc) (Q : State → Prop) (pc : Nat) (lv : List (Option Value)) (st : List Value) (ws : va_W) (n1 n2 : Nat) : Prop :=
  ∀ (H : Heap) (locs : List Loc) (ls : Array Slot), va_P D vwCl ws H → va_D (xA X) ws → va_S (xA X) (xs X).heap H locs → lh ls (xc X).maxLocals lv →
    W (xp X) l (xe X) (xR X) (xs X) (xm X) (xa X) (xb X) (xt X) (xc X) H locs n1 n2 Q (F0 (xm X) pc ls st)
def KF (D : va_G) (t : Nat → ClassId) (X : Xc) (own : String) (cc : ByteArray) (nL : Nat) (R : Room) : Prop :=
  (xp X).tables.exec = Jvm.exec ∧ (xc X).code = cc ∧ (xc X).maxLocals = nL ∧ (xs X).vm.findClass own = some (xm X).cls ∧ (∀ w ∈ tb0, w.before (xa X) (xs X) = true) ∧ va_K D vwCl (tys t) (xs X) ∧ NWs (xs X) ∧ xR X = R ∧ ∀ q, (xs X).heap.size ≤ q → xA X q
def Kp (l : Launch) (D : va_G) (t : Nat → ClassId) (d : Nat) (y : MethodName) (cc : ByteArray) (nL a : Nat) (As : List Value) (ws0 : va_W) (n1 n2 : Nat) (ws1 : (Nat → Nat) → va_W) : Prop := ∀ sz : Nat,
  Met l y (Cond.code y cc nL none :: tb0) { frames := d, cells := n1, slots := n2, locals := 40 * d } (va_Pc (.ref a :: As) (fun U => U.heap.size = sz ∧ va_P D vwCl ws0 U.heap ∧ va_K D vwCl (tys t) U ∧ NWs U ∧ va_D (fun _ => True) ws0))
    (va_Qv (fun _ : Nat → Nat => True) (fun q u => va_P D vwCl (ws1 q) u.heap ∧ va_K D vwCl (tys t) u ∧ va_D (va_A ws0 sz) (ws1 q)) (va_A ws0 sz)) n1 n2 (va_A ws0 sz)
abbrev Qk (D : va_G) (t : Nat → ClassId) (X : Xc) (n1 n2 : Nat) (ws1 : (Nat → Nat) → va_W) : State → Prop := MQ (xb X) (va_Qv (fun _ : Nat → Nat => True) (fun q u => va_P D vwCl (ws1 q) u.heap ∧ va_K D vwCl (tys t) u ∧ va_D (xA X) (ws1 q)) (xA X)) (xa X) (xs X) n1 n2 (xA X)
theorem map_fm {α : Type} {f : Nat → Option α} : ∀ {is : List Nat} {ws : List α}, is.map f = ws.map some → is.filterMap f = ws
  | [], [], _ => rfl
  | [], _ :: _, h => by simp at h
  | _ :: _, [], h => by simp at h
  | i :: is, x :: ws, h => by
    simp only [List.map_cons, List.cons.injEq] at h
    rw [List.filterMap_cons, h.1, map_fm h.2]
theorem Kp.of {l : Launch} {D : va_G} {t : Nat → ClassId} {d : Nat} {y : MethodName} {cc : ByteArray} {nL a : Nat} {As : List Value} {ws0 : va_W} {n1 n2 : Nat} {ws1 : (Nat → Nat) → va_W} (hy : plainName y.cls = true) (hi : y.name = "<init>") (hn : (lg_sl (.ref a :: As)).length ≤ nL)
    (k : ∀ X : Xc, KF D t X y.cls cc nL { frames := d, cells := n1, slots := n2, locals := 40 * d } → (xt X).name = "<init>" → (xt X).sig.returnType = none → (xt X).locks = false → KW l D X (Qk D t X n1 n2 ws1) 0 (ent (.ref a :: As)) [] ws0 0 0) : Kp l D t d y cc nL a As ws0 n1 n2 ws1 := by
  intro sz
  refine Met.ofW (cc := cc) (maxL := nL) (ret := none) hy rfl ?_
  intro p e s m args below meth c s₁ B hml hv
  obtain ⟨rfl, hsz, hP, hK, hN, hD0⟩ := hv
  have hts := atoms_spec (ws := Cond.code y cc nL none :: tb0) B.pre
  have hown : s.vm.findClass y.cls = some m.cls := findClass_of_methodNamed B.named
  have hin : meth.name = "<init>" := (name_of_methodNamed B.named B.method).1.trans hi
  subst hsz
  have hD := hD0.self (sz := s.heap.size)
  have hS : va_S (va_A ws0 s.heap.size) s.heap s.heap [] := va_S.rf
  have hl := lv_entry (.ref a :: As) (n := nL) hn
  rw [lg_entry_eq]
  exact k (p, e, { frames := d, cells := n1, slots := n2, locals := 40 * d }, s, m, (Value.ref a :: As).toArray, below, meth, c, va_A ws0 s.heap.size)
    ⟨B.exec, B.bytes, hml, hown, fun q hq => hts q (List.mem_cons_of_mem _ hq), hK, hN, rfl, fun q h => Or.inr h⟩ hin B.returns B.notSynchronized s.heap [] _ hP hD hS (lh_ent (by rw [show (xc (p, e, ({ frames := d, cells := n1, slots := n2, locals := 40 * d } : Room), s, m, (Value.ref a :: As).toArray, below, meth, c, va_A ws0 s.heap.size)).maxLocals = nL from hml]; exact hl))
section KR
variable {l : Launch} {D : va_G} {t : Nat → ClassId} {X : Xc} {own : String} {cc : ByteArray} {nL : Nat} {R : Room} {Q : State → Prop} {pc : Nat} {lv : List (Option Value)} {rest : List Value} {ws : va_W} {n1 n2 : Nat}
theorem kw_iconst (F : KF D t X own cc nL R) {n : Int} (hd : decode cc pc = .ok (.iconst n, 1))
    (k : KW l D X Q (pc + 1) lv (iv n :: rest) ws n1 n2) : KW l D X Q pc lv rest ws n1 n2 := by
  intro H locs ls hP hD hS hl
  exact lv_iconst F.1 F.2.1 hd rfl (k H locs ls hP hD hS hl)
theorem kw_bipush (F : KF D t X own cc nL R) {n : Int} (hd : decode cc pc = .ok (.bipush n, 2)) (hv : (Int8.ofInt n).toInt32 = Int32.ofInt n)
    (k : KW l D X Q (pc + 2) lv (iv n :: rest) ws n1 n2) : KW l D X Q pc lv rest ws n1 n2 := by
  intro H locs ls hP hD hS hl
  exact lv_bipush F.1 F.2.1 hd hv (k H locs ls hP hD hS hl)
theorem kw_sipush (F : KF D t X own cc nL R) {n : Int} (hd : decode cc pc = .ok (.sipush n, 3)) (hv : (Int16.ofInt n).toInt32 = Int32.ofInt n)
    (k : KW l D X Q (pc + 3) lv (iv n :: rest) ws n1 n2) : KW l D X Q pc lv rest ws n1 n2 := by
  intro H locs ls hP hD hS hl
  exact lv_sipush F.1 F.2.1 hd hv (k H locs ls hP hD hS hl)
theorem kw_dup (F : KF D t X own cc nL R) {v : Value} (hd : decode cc pc = .ok (.dup, 1)) (hc : v.category = 1)
    (k : KW l D X Q (pc + 1) lv (v :: v :: rest) ws n1 n2) : KW l D X Q pc lv (v :: rest) ws n1 n2 := by
  intro H locs ls hP hD hS hl
  exact lv_dup F.1 F.2.1 hd hc (k H locs ls hP hD hS hl)
theorem kw_aload_n (F : KF D t X own cc nL R) {i : Fin 4} {x : Nat} (hd : decode cc pc = .ok (.aload_n i, 1)) (hl : lg lv (i : Nat) = some (.ref x))
    (k : KW l D X Q (pc + 1) lv (.ref x :: rest) ws n1 n2) : KW l D X Q pc lv rest ws n1 n2 := by
  intro H locs ls hP hD hS hl'
  exact lv_aload_n F.1 F.2.1 hd rfl (hl'.at hl) (k H locs ls hP hD hS hl')
theorem kw_iload_n (F : KF D t X own cc nL R) {i : Fin 4} {x : Int32} (hd : decode cc pc = .ok (.iload_n i, 1)) (hl : lg lv (i : Nat) = some (.int x))
    (k : KW l D X Q (pc + 1) lv (.int x :: rest) ws n1 n2) : KW l D X Q pc lv rest ws n1 n2 := by
  intro H locs ls hP hD hS hl'
  exact lv_iload_n F.1 F.2.1 hd rfl (hl'.at hl) (k H locs ls hP hD hS hl')
theorem kw_astore_n (F : KF D t X own cc nL R) {i : Fin 4} {x : Nat} (hd : decode cc pc = .ok (.astore_n i, 1)) (hn : (i : Nat) < nL) (ho : okst lv (i : Nat) = true)
    (k : KW l D X Q (pc + 1) (lst lv (i : Nat) (some (.ref x))) rest ws n1 n2) : KW l D X Q pc lv (.ref x :: rest) ws n1 n2 := by
  intro H locs ls hP hD hS hl
  exact lv_astore_n F.1 F.2.1 hd rfl hl.has (by rw [F.2.2.1]; exact hn) rfl (fun ls' h' => k H locs ls' hP hD hS (lh_st1 ho h'))
theorem kw_istore_n (F : KF D t X own cc nL R) {i : Fin 4} {x : Int32} (hd : decode cc pc = .ok (.istore_n i, 1)) (hn : (i : Nat) < nL) (ho : okst lv (i : Nat) = true)
    (k : KW l D X Q (pc + 1) (lst lv (i : Nat) (some (.int x))) rest ws n1 n2) : KW l D X Q pc lv (.int x :: rest) ws n1 n2 := by
  intro H locs ls hP hD hS hl
  exact lv_istore_n F.1 F.2.1 hd rfl hl.has (by rw [F.2.2.1]; exact hn) rfl (fun ls' h' => k H locs ls' hP hD hS (lh_st1 ho h'))
theorem kw_goto (F : KF D t X own cc nL R) {off : Int} {tgt : Nat} (hd : decode cc pc = .ok (.goto off, 3)) (ht : (pc : Int) + off = (tgt : Int))
    (k : KW l D X Q tgt lv rest ws n1 n2) : KW l D X Q pc lv rest ws n1 n2 := by
  intro H locs ls hP hD hS hl
  exact lv_goto F.1 F.2.1 hd ht (k H locs ls hP hD hS hl)
theorem kw_imul (F : KF D t X own cc nL R) {a b : Int} (hd : decode cc pc = .ok (.imul, 1))
    (k : KW l D X Q (pc + 1) lv (iv (a * b) :: rest) ws n1 n2) : KW l D X Q pc lv (iv b :: iv a :: rest) ws n1 n2 := by
  intro H locs ls hP hD hS hl
  have h := k H locs ls hP hD hS hl
  rw [iv, Int32.ofInt_mul] at h
  exact lv_imul F.1 F.2.1 hd h
theorem kw_sub {lv' : List (Option Value)} {st : List Value} (k : KW l D X Q pc lv' st ws n1 n2) (h : lvle lv' lv) : KW l D X Q pc lv st ws n1 n2 :=
  fun H locs ls hP hD hS hl => k H locs ls hP hD hS ⟨hl.1, hl.2.1, fun i v e => hl.2.2 i v (lvle_lg lv' lv h i v e)⟩
theorem kw_obj (F : KF D t X own cc nL R) {i a : Nat} (hd : decode cc pc = .ok (.invokespecial i, 3)) (L : Cond.methodLink own i objectInit ∈ tb0) (h1 : 1 ≤ R.frames) (h2 : 12 ≤ R.locals)
    (k : KW l D X Q (pc + 3) lv [] ws n1 n2) : KW l D X Q pc lv [.ref a] ws n1 n2 := by
  intro H locs ls hP hD hS hl
  refine W.objInit F.1 F.2.1 F.2.2.2.1 (F.2.2.2.2.1 _ L) (F.2.2.2.2.1 _ oi_in) (F.2.2.2.2.1 _ oc_in) rfl hl.1 rfl hd (by rw [F.2.2.2.2.2.2.2.1]; exact h1) (by rw [F.2.2.2.2.2.2.2.1]; exact h2) ?_
  exact W.eq (g2 := F0 (xm X) (pc + 3) ls []) rfl (k H locs ls hP hD hS hl)
theorem kw_new (F : KF D t X own cc nL R) {i ci N : Nat} {fs : List Value} (hd : decode cc pc = .ok (.new i, 3)) (L : Nn own i ci N fs) (h1 : n1 + 1 ≤ R.cells) (h2 : n2 + N ≤ R.slots)
    (k : ∀ q : Nat, KW l D X Q (pc + 3) lv (.ref q :: rest) (ws ++ [(q, .inr (ci, fs))]) (n1 + 1) (n2 + N)) : KW l D X Q pc lv rest ws n1 n2 := by
  intro H locs ls hP hD hS hl
  obtain ⟨C, T, ty, l1, l2, l3, l4, l5, l6, l7⟩ := L
  exact va_new F.1 F.2.1 F.2.2.2.2.1 l2 ty l3 F.2.2.2.1 (F.2.2.2.2.1 _ l4) (F.2.2.2.2.1 _ l5) (F.2.2.2.2.1 _ l6) F.2.2.2.2.2.1 hP hD hS F.2.2.2.2.2.2.2.2 l1 l7 (by rw [F.2.2.2.2.2.2.2.1]; exact h1) (by rw [F.2.2.2.2.2.2.2.1]; exact h2) hd (fun q H1 hP1 hD1 hS1 => k q H1 locs ls hP1 hD1 hS1 hl)
theorem kw_newa (F : KF D t X own cc nL R) {z : ArrayType} {ty : FieldType} (κ n : Nat) (hd : decode cc pc = .ok (.newarray z, 2)) (hz : newarray.typeOf z = ty) (hk : (κ = 0 ∧ ty = .int) ∨ (κ = 1 ∧ ty = .byte) ∨ (κ = 2 ∧ ty = .boolean)) (hw : Cond.arrayClass ty ∈ tb0) (hn : n ≤ 100000) (h1 : n1 + 1 ≤ R.cells) (h2 : n2 + n ≤ R.slots)
    (k : ∀ q : Nat, KW l D X Q (pc + 2) lv (.ref q :: rest) (ws ++ [(q, aZ (t κ) n)]) (n1 + 1) (n2 + n)) : KW l D X Q pc lv (iv n :: rest) ws n1 n2 := by
  intro H locs ls hP hD hS hl
  have hi : inR (n : Int) := by omega
  have hK := F.2.2.2.2.2.1
  refine va_newa F.1 F.2.1 (by rw [hz]; exact F.2.2.2.2.1 _ hw) hz hK hP hD hS F.2.2.2.2.2.2.2.2 (N' := n) (a0 := (n, .inl (fun _ => 0))) (fun cA => by rcases hk with ⟨-, rfl⟩ | ⟨-, rfl⟩ | ⟨-, rfl⟩ <;> rfl) (by rw [iv_zero, iv_lt hi (show inR 0 by omega)]; omega) (by rw [iv_clamp hi]; omega) (by rcases hk with ⟨-, rfl⟩ | ⟨-, rfl⟩ | ⟨-, rfl⟩ <;> simp only [componentBytes] <;> omega) (by rw [F.2.2.2.2.2.2.2.1]; exact h1) (by rw [F.2.2.2.2.2.2.2.1]; exact h2) hd (fun q cA H1 hK1 hP1 hD1 hS1 => ?_)
  have e : cA = t κ := by
    have r1 := (hK1.2 3 (cA, ty) rfl).2
    rcases hk with ⟨rfl, rfl⟩ | ⟨rfl, rfl⟩ | ⟨rfl, rfl⟩
    · exact Option.some.inj (r1.symm.trans (hK.2 0 (t 0, .int) rfl).2)
    · exact Option.some.inj (r1.symm.trans (hK.2 1 (t 1, .byte) rfl).2)
    · exact Option.some.inj (r1.symm.trans (hK.2 2 (t 2, .boolean) rfl).2)
  subst e
  exact k q H1 locs ls hP1 hD1 hS1 hl
theorem kw_putF (F : KF D t X own cc nL R) {i ci j a : Nat} {fs : List Value} {v : Value} {ty : FieldType} {ws' : va_W} (q0 : Nat) (hd : decode cc pc = .ok (.putfield i, 3)) (L : Ff own i ci j ty) (hin : (xt X).name = "<init>") (he : ws[q0]? = some (a, .inr (ci, fs))) (hn : narrow ty v = v) (hf : fits ty v = true) (hl : j < fs.length) (hw : ws.set q0 (a, .inr (ci, fs.set j v)) = ws')
    (k : KW l D X Q (pc + 3) lv rest ws' n1 n2) : KW l D X Q pc lv (v :: .ref a :: rest) ws n1 n2 := by
  intro H locs ls hP hD hS hl'
  obtain ⟨C, T, N, ty0, l1, l2, l3, l4, l5, l6, l7, l8, l9⟩ := L
  subst hw
  exact va_putF F.1 F.2.1 F.2.2.2.2.1 l3 ty0 l5 l6 F.2.2.2.1 F.2.2.2.2.2.1 hP hD hS q0 he l1 j l2 (F.2.2.2.2.1 _ l4) (fun _ h => h) l7 hin l8 l9 hn hf hl hd (fun H1 locs1 hP1 hD1 hS1 => k H1 locs1 ls hP1 hD1 hS1 hl')
theorem kw_putV (F : KF D t X own cc nL R) {i ci j a : Nat} {fs : List Value} {v : Value} {ty : FieldType} {ws' : va_W} (q0 : Nat) (hd : decode cc pc = .ok (.putfield i, 3)) (L : Fp own i ci j ty) (he : ws[q0]? = some (a, .inr (ci, fs))) (hn : narrow ty v = v) (hf : fits ty v = true) (hl : j < fs.length) (hw : ws.set q0 (a, .inr (ci, fs.set j v)) = ws')
    (k : KW l D X Q (pc + 3) lv rest ws' n1 n2) : KW l D X Q pc lv (v :: .ref a :: rest) ws n1 n2 := by
  intro H locs ls hP hD hS hl'
  obtain ⟨C, T, N, ty0, l1, l2, l3, l4, l5, l6, l7, l8⟩ := L
  subst hw
  exact va_put F.1 F.2.1 F.2.2.2.2.1 l3 ty0 l5 l6 F.2.2.2.1 F.2.2.2.2.2.1 hP hD hS q0 he l1 j l2 (F.2.2.2.2.1 _ l4) (fun _ h => h) l7 l8 hn hf hl hd (fun H1 locs1 hP1 hD1 hS1 => k H1 locs1 ls hP1 hD1 hS1 hl')
theorem kw_get (F : KF D t X own cc nL R) {i ci j a : Nat} {fs : List Value} {v : Value} (q0 : Nat) (hd : decode cc pc = .ok (.getfield i, 3)) (L : Fg own i ci j) (he : ws[q0]? = some (a, .inr (ci, fs))) (hv : fs[j]? = some v)
    (k : KW l D X Q (pc + 3) lv (v :: rest) ws n1 n2) : KW l D X Q pc lv (.ref a :: rest) ws n1 n2 := by
  intro H locs ls hP hD hS hl
  obtain ⟨C, T, N, l1, l2, l3, l4⟩ := L
  exact va_get F.1 F.2.1 F.2.2.2.2.1 l3 F.2.2.2.1 F.2.2.2.2.2.1 hP q0 he l1 j l2 (F.2.2.2.2.1 _ l4) (fun _ h => h) hv hd (k H locs ls hP hD hS hl)
theorem kw_iast (F : KF D t X own cc nL R) {a n : Nat} {i v : Int} {f : Nat → Int32} {ws' : va_W} (q0 : Nat) (hd : decode cc pc = .ok (.iastore, 1)) (he : ws[q0]? = some (a, .inl (t 0, (n, .inl f)))) (hi : inR i) (h0 : 0 ≤ i) (h1 : i < n) (hw : ws.set q0 (a, .inl (t 0, (n, .inl (upd f i.toNat (Int32.ofInt v))))) = ws')
    (k : KW l D X Q (pc + 1) lv rest ws' n1 n2) : KW l D X Q pc lv (iv v :: iv i :: .ref a :: rest) ws n1 n2 := by
  intro H locs ls hP hD hS hl
  subst hw
  refine va_iast F.1 F.2.1 F.2.2.2.2.2.1 hP hD hS q0 0 he rfl (iv_in hi h0 h1) hd (fun H1 locs1 hP1 hD1 hS1 => ?_)
  rw [iv_clamp hi] at hP1 hD1
  exact k H1 locs1 ls hP1 hD1 hS1 hl
theorem kw_if1 (F : KF D t X own cc nL R) {off : Int} (hd : decode cc pc = .ok (.ifCond .eq off, 3)) {tgt : Nat} (ht : (pc : Int) + off = (tgt : Int)) (k : KW l D X Q (pc + 3) lv rest ws n1 n2) : KW l D X Q pc lv (iv 1 :: rest) ws n1 n2 := by
  intro H locs ls hP hD hS hl
  exact lv_if_eq F.1 F.2.1 hd ht (fun h => absurd h (by decide)) (fun _ => k H locs ls hP hD hS hl)
theorem kw_callI (F : KF D t X own cc nL R) {i d' nL' n a m1 m2 : Nat} {y : MethodName} {b : ByteArray} {As st : List Value} {wc wr : va_W} {w1 : (Nat → Nat) → va_W} (isC isR : List Nat) (hd : decode cc pc = .ok (.invokespecial i, 3)) (L : Ci own i y b nL' n) (hc : Kp l D t d' y b nL' a As wc m1 m2 w1) (hn : As.length = n) (hst : st = As.reverse ++ .ref a :: rest)
    (hC : isC.map (fun i => ws[i]?) = wc.map some) (hnC : va_nd isC = true) (hR : isR.map (fun i => ws[i]?) = wr.map some) (hnR : va_nd isR = true) (hdis : ∀ i ∈ isR, i ∉ isC) (hr : d' + 1 ≤ R.frames ∧ 8 + (nL' + 11) + 40 * d' ≤ R.locals) (hcat : (rest.map fun v => v.category).sum ≤ 8) (hm : n1 + m1 ≤ R.cells ∧ n2 + m2 ≤ R.slots)
    (k : ∀ q : Nat → Nat, KW l D X Q (pc + 3) lv rest (wr ++ w1 q) (n1 + m1) (n2 + m2)) : KW l D X Q pc lv st ws n1 n2 := by
  intro H locs ls hP hD hS hl
  have hPc := hP.sub (ws' := wc) isC (map_fm hC)
  have hDc := hD.sub (ws' := wc) isC hnC hC
  have hFc := va_free (wc := wc) hD hS F.2.2.2.2.2.2.2.2 isC hC
  obtain ⟨L1, L2, L3, L4⟩ := L
  refine va_callv (va_runI (As := As) (rest := rest) ⟨F.1, F.2.1, F.2.2.1, F.2.2.2.1, F.2.2.2.2.1⟩ (hc H.size) ⟨callB_of n F.2.2.2.2.1 (tb_good y b nL' none (fun _ h => h) L1.2.1) rfl rfl rfl (F.2.2.2.2.1 _ L1.1) (F.2.2.2.2.1 _ L2) ⟨L1.2.2.1, L1.2.2.2.1, L1.2.2.2.2⟩ (by rw [F.2.2.2.2.2.2.2.1]; exact ⟨hr.1, hr.2⟩), L4, F.2.2.2.2.1 _ L3⟩
    ⟨fun a U g mk q => by obtain ⟨q0, q1, qP, qK, qN, qD⟩ := q; exact ⟨q0, q1, qP, va_K.moved (u := U) (U := U.calling g mk a) (Vm.Alike.refl U.vm) qK, NWs.same (u := U) (U := U.calling g mk a) rfl qN, qD⟩, fun U hU hW => ⟨rfl, by rw [hU], by rw [hU]; exact hPc, va_K.moved hW.alike F.2.2.2.2.2.1, NWs.warm hW F.2.2.2.2.2.2.1, hDc.weaken (fun _ _ _ _ => trivial)⟩⟩
    rfl hn (by rw [← F.2.2.1]; exact hl.1) hst (lv_room hcat) hd (by rw [F.2.2.2.2.2.2.2.1]; exact hm)) hS (fun q _ h => hFc q h) hFc (fun u t' H1 locs1 ht hvm hw hB hz1 hk1 hS1 => ?_)
  obtain ⟨hP1, hK1, hD1⟩ := hB
  rw [ht] at hP1
  obtain ⟨hP2, hD2⟩ := va_join (wr := wr) (w1 := w1 u) hP hD isC isR hC hR hnR hdis hk1 hFc hP1 hD1
  exact k u H1 locs1 ls hP2 hD2 hS1 hl
theorem kw_callIN (F : KF D t X own cc nL R) {i d' nL' n a m1 m2 : Nat} {y : MethodName} {b : ByteArray} {As st : List Value} {wc wr : va_W} {w1 : (Nat → Nat) → va_W} (isC isR : List Nat) (hd : decode cc pc = .ok (.invokespecial i, 3)) (L : Cin own i y b nL' n) (hc : Kp l D t d' y b nL' a As wc m1 m2 w1) (hn : As.length = n) (hst : st = As.reverse ++ .ref a :: rest)
    (hC : isC.map (fun i => ws[i]?) = wc.map some) (hnC : va_nd isC = true) (hR : isR.map (fun i => ws[i]?) = wr.map some) (hnR : va_nd isR = true) (hdis : ∀ i ∈ isR, i ∉ isC) (hr : d' + 1 ≤ R.frames ∧ 8 + (nL' + 11) + 40 * d' ≤ R.locals) (hcat : (rest.map fun v => v.category).sum ≤ 8) (hm : n1 + m1 ≤ R.cells ∧ n2 + m2 ≤ R.slots)
    (k : ∀ q : Nat → Nat, KW l D X Q (pc + 3) lv rest (wr ++ w1 q) (n1 + m1) (n2 + m2)) : KW l D X Q pc lv st ws n1 n2 := by
  intro H locs ls hP hD hS hl
  have hPc := hP.sub (ws' := wc) isC (map_fm hC)
  have hDc := hD.sub (ws' := wc) isC hnC hC
  have hFc := va_free (wc := wc) hD hS F.2.2.2.2.2.2.2.2 isC hC
  obtain ⟨L1, ⟨h, L2⟩, L3, L4⟩ := L
  refine va_callv (va_runIN (As := As) (rest := rest) ⟨F.1, F.2.1, F.2.2.1, F.2.2.2.1, F.2.2.2.2.1⟩ (hc H.size) ⟨va_cnB n F.2.2.2.2.1 (tb_good y b nL' none (fun _ h => h) L1.2.1) rfl rfl rfl (F.2.2.2.2.2.2.1 _ L2) (F.2.2.2.2.1 _ L1.1) ⟨L1.2.2.1, L1.2.2.2.1, L1.2.2.2.2⟩ (by rw [F.2.2.2.2.2.2.2.1]; exact ⟨hr.1, hr.2⟩), L4, F.2.2.2.2.1 _ L3⟩
    ⟨fun a U g mk q => by obtain ⟨q0, q1, qP, qK, qN, qD⟩ := q; exact ⟨q0, q1, qP, va_K.moved (u := U) (U := U.calling g mk a) (Vm.Alike.refl U.vm) qK, NWs.same (u := U) (U := U.calling g mk a) rfl qN, qD⟩, fun U hU hW => ⟨rfl, by rw [hU], by rw [hU]; exact hPc, va_K.moved hW.alike F.2.2.2.2.2.1, NWs.warm hW F.2.2.2.2.2.2.1, hDc.weaken (fun _ _ _ _ => trivial)⟩⟩
    rfl hn (by rw [← F.2.2.1]; exact hl.1) hst (lv_room hcat) hd (by rw [F.2.2.2.2.2.2.2.1]; exact hm)) hS (fun q _ h => hFc q h) hFc (fun u t' H1 locs1 ht hvm hw hB hz1 hk1 hS1 => ?_)
  obtain ⟨hP1, hK1, hD1⟩ := hB
  rw [ht] at hP1
  obtain ⟨hP2, hD2⟩ := va_join (wr := wr) (w1 := w1 u) hP hD isC isR hC hR hnR hdis hk1 hFc hP1 hD1
  exact k u H1 locs1 ls hP2 hD2 hS1 hl
abbrev GE (l : Launch) (D : va_G) (t : Nat → ClassId) : Gc := (l, (fun _ => 0), D, t, (fun _ => .inl (0, 0)), 0)
theorem celsE (l : Launch) (D : va_G) (t : Nat → ClassId) (w : Wd) : cels (GE l D t) w = [] := rfl
theorem kw_callN (F : KF D t X own cc nL R) {i d' nL' n : Nat} {y : MethodName} {b : ByteArray} {ret' : Option FieldType} {As st : List Value} {w : Wd} {post1 : Option Value → Wd → Prop} (hd : decode cc pc = .ok (.invokestatic i, 3)) (L : Cn own i y b nL' ret' n)
    (hc : Sp (GE l D t) d' y b nL' ret' As w post1) (hO : okW (GE l D t) w) (hn : As.length = n) (hr : d' + 1 ≤ R.frames ∧ 8 + (nL' + 11) + 40 * d' ≤ R.locals) (hst : st = As.reverse ++ rest) (hcat : (rest.map fun v => v.category).sum ≤ 8) (hm : n1 ≤ R.cells ∧ n2 ≤ R.slots)
    (kk : ∀ (v : Option Value) (w' : Wd), post1 v w' → KW l D X Q (pc + 3) lv (v.toList ++ rest) ws n1 n2) : KW l D X Q pc lv st ws n1 n2 := by
  intro H locs ls hP hD hS hl
  obtain ⟨L1, ⟨h, L2⟩, L3⟩ := L
  have hr := va_runSN (p := xp X) (l := l) (e := xe X) (R := xR X) (s := xs X) (m := xm X) (args := xa X) (below := xb X) (meth := xt X) (c := xc X) (H := H) (As := As) (rest := rest) (cells := n1) (slots := n2) (locs := locs) (g := F0 (xm X) pc ls st) ⟨F.1, F.2.1, F.2.2.1, F.2.2.2.1, F.2.2.2.2.1⟩ (hc hO H.size) ⟨va_cnB n F.2.2.2.2.1 (tb_good y b nL' ret' (fun _ h => h) L1.2.1) rfl rfl rfl (F.2.2.2.2.2.2.1 _ L2) (F.2.2.2.2.1 _ L1.1) ⟨L1.2.2.1, L1.2.2.2.1, L1.2.2.2.2⟩ (by rw [F.2.2.2.2.2.2.2.1]; exact ⟨hr.1, hr.2⟩), F.2.2.2.2.1 _ L3, trivial⟩
    ⟨sp_blind, fun U hU hW => ⟨rfl, by rw [hU], fun k q hq => (by rw [celsE] at hq; cases hq), va_K.moved hW.alike F.2.2.2.2.2.1, NWs.warm hW F.2.2.2.2.2.2.1, ⟨fun i j p q hp => by (rw [celsE] at hp; cases hp), fun k q hq => trivial⟩⟩⟩ rfl hn (by rw [← F.2.2.1]; exact hl.1) hst (lv_room hcat) hd (by rw [F.2.2.2.2.2.2.2.1]; exact hm)
  intro T hT XX
  obtain ⟨v, st₀, t', T', L, h0, X', hL, e1, e2, ⟨⟨v', w', hv, hp, hO', hP', hK', hD'⟩, hz, hk⟩, go⟩ := hr T hT XX
  cases hv
  rw [h0] at hz hk
  have hA : ∀ q : Nat, va_A (cels (GE l D t) w) H.size q → H.size ≤ q := fun q h => by
    rcases h with ⟨k, e, h⟩ | h
    · rw [celsE] at h; cases h
    · exact h
  have hkk : ∀ q : Nat, q < H.size → t'.heap[q]? = H[q]? := fun q h => hk q h (fun z => absurd (hA q z) (Nat.not_le.mpr h))
  obtain ⟨t2, a1, b1⟩ := kk v w' hp T'.heap (locs ++ L) ls (by rw [e1]; exact hP.kept (fun k x hx => hkk x.1 (hP k x hx).lt)) hD
    ⟨Nat.le_trans hS.1 (by rw [e1]; exact hz), fun q h1 h2 => by rw [e1, hkk q (Nat.lt_of_lt_of_le h1 hS.1)]; exact hS.2.1 q h1 h2, fun q hq => by
      rcases List.mem_append.mp hq with h | h
      · exact hS.2.2 q h
      · exact F.2.2.2.2.2.2.2.2 _ (Nat.le_trans hS.1 (hA _ (hL q h)))⟩ hl T' rfl X'
  exact ⟨t2, go t2 a1, b1⟩
theorem kw_vret (F : KF D t X own cc nL R) (hret : (xt X).sig.returnType = none) (hlk : (xt X).locks = false) {ws1 : (Nat → Nat) → va_W} (hd : decode cc pc = .ok (.return_, 1)) (q : Nat → Nat) (hq : ws = ws1 q) : KW l D X (Qk D t X n1 n2 ws1) pc lv [] ws n1 n2 := by
  intro H locs ls hP hD hS hl
  exact W.vret (hlocks := hlk) F.1 F.2.1 hret (fun t' ht hW => ⟨⟨q, rfl, trivial, by rw [ht, ← hq]; exact hP, va_K.moved hW.alike F.2.2.2.2.2.1, by rw [← hq]; exact hD⟩, hS.F ht⟩) hS.2.2 hd
end KR
