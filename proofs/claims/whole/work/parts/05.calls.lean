/-! what the tables say of a call -/
def Cb (y : MethodName) (b : ByteArray) (nL : Nat) (ret : Option FieldType) (n : Nat) : Prop := Cond.initialized y.cls ∈ tb0 ∧ Cond.code y b nL ret ∈ tb0 ∧ y.cls ≠ "java/lang/invoke/MethodHandle" ∧ y.cls ≠ "java/lang/invoke/VarHandle" ∧ (parseMethodDescriptor y.desc).map (fun d => d.parameters.length) = some n
def Cv (own : String) (i : Nat) (y : MethodName) (b : ByteArray) (nL : Nat) (ret : Option FieldType) (n : Nat) : Prop := Cb y b nL ret n ∧ Cond.methodLink own i y ∈ tb0 ∧ Cond.instanceMethod y ∈ tb0 ∧ Cond.selects y.cls y y ∈ tb0
def Cs (own : String) (i : Nat) (y : MethodName) (b : ByteArray) (nL : Nat) (ret : Option FieldType) (n : Nat) : Prop := Cb y b nL ret n ∧ Cond.methodLink own i y ∈ tb0 ∧ Cond.static y ∈ tb0
def Cn (own : String) (i : Nat) (y : MethodName) (b : ByteArray) (nL : Nat) (ret : Option FieldType) (n : Nat) : Prop := Cb y b nL ret n ∧ (∃ h : String, (own, i, y, h) ∈ nst) ∧ Cond.static y ∈ tb0
section JC
variable {G : Gc} {X : Xc} {own : String} {cc : ByteArray} {nL d : Nat} {ret : Option FieldType} {post : Option Value → Wd → Prop} {pc : Nat} {lv : List (Option Value)} {st rest : List Value} {w : Wd}
theorem sp_blind {G : Gc} {w : Wd} {args : List Value} {sz : Nat} : FrameBlind (va_Pc args (fun U => U.heap.size = sz ∧ va_P (gD G) vwCl (cels G w) U.heap ∧ va_K (gD G) vwCl (gT G) U ∧ NWs U ∧ va_D (fun _ => True) (cels G w))) := by
  intro a U g mk q
  obtain ⟨q0, q1, qP, qK, qN, qD⟩ := q
  exact ⟨q0, q1, qP, va_K.moved (u := U) (U := U.calling g mk a) (Vm.Alike.refl U.vm) qK, NWs.same (u := U) (U := U.calling g mk a) rfl qN, qD⟩
theorem sp_pre {args : List Value} {H : Heap} (F : Fx G X own cc nL d ret) (hP : va_P (gD G) vwCl (cels G w) H) (hD : va_D (xA X) (cels G w)) : ∀ U : State, U.heap = H → (xs X).WarmedH U.vm → va_Pc args (fun U => U.heap.size = H.size ∧ va_P (gD G) vwCl (cels G w) U.heap ∧ va_K (gD G) vwCl (gT G) U ∧ NWs U ∧ va_D (fun _ => True) (cels G w)) args.toArray U :=
  fun U hU hW => ⟨rfl, by rw [hU], by rw [hU]; exact hP, va_K.moved hW.alike F.2.2.2.2.2.1, NWs.warm hW F.2.2.2.2.2.2.1, hD.weaken (fun _ _ _ _ => trivial)⟩
theorem sp_go {post1 : Option Value → Wd → Prop} {a : Array Value} {H : Heap} {locs : List Loc} {ls : Array Slot} (F : Fx G X own cc nL d ret) (hD : va_D (xA X) (cels G w)) (hS : va_S (xA X) (xs X).heap H locs) (hl : lh ls (xc X).maxLocals lv)
    (hr : va_Run (xp X) (gl G) (xe X) (xR X) (xs X) (xm X) (xa X) (xb X) (xt X) (xc X) H locs 0 0 0 0 (F0 (xm X) pc ls st) rest (Qg G post1 (va_A (cels G w) H.size) a) (va_A (cels G w) H.size))
    (kk : ∀ (v : Option Value) (w' : Wd), post1 v w' → Jw G X post (pc + 3) lv (v.toList ++ rest) w') :
    W (xp X) (gl G) (xe X) (xR X) (xs X) (xm X) (xa X) (xb X) (xt X) (xc X) H locs 0 0 (MQ (xb X) (Qg G post (xA X)) (xa X) (xs X) 0 0 (xA X)) (F0 (xm X) pc ls st) := by
  have hA : ∀ q, va_A (cels G w) H.size q → xA X q := fun q h => by
    rcases h with ⟨k, e, h⟩ | h
    · exact hD.2 k (q, e) h
    · exact F.2.2.2.2.2.2.2.2.2.2.2.2.2 q (Nat.le_trans hS.1 h)
  intro T hT XX
  obtain ⟨v, st₀, t, T', L, h0, X', hL, e1, e2, ⟨⟨v', w', hv, hp, hO', hP', hK', hD'⟩, hz, hk⟩, go⟩ := hr T hT XX
  cases hv
  rw [h0] at hz hk
  obtain ⟨t2, a1, b1⟩ := kk v w' hp T'.heap (locs ++ L) ls (by rw [e1]; exact hP') (hD'.weaken (fun _ q _ h => hA q.1 h))
    ⟨Nat.le_trans hS.1 (by rw [e1]; exact hz), fun q h1 h2 => by rw [e1, hk q (Nat.lt_of_lt_of_le h1 hS.1) (fun z => h2 (hA q z))]; exact hS.2.1 q h1 h2, fun q hq => by
      rcases List.mem_append.mp hq with h | h
      · exact hS.2.2 q h
      · exact hA _ (hL q h)⟩ hO' hl T' rfl X'
  exact ⟨t2, go t2 a1, b1⟩
theorem cb_of {y : MethodName} {b : ByteArray} {nL' n d' i : Nat} {ret' : Option FieldType} (F : Fx G X own cc nL d ret) (L : Cb y b nL' ret' n) (hl : Cond.methodLink own i y ∈ tb0) (hdd : d' + 1 ≤ d) (hml : nL' ≤ 21) :
    CallB (xR X) (xs X) (xa X) own i y b nL' ret' (Cond.code y b nL' ret' :: tb0) { frames := d', cells := 0, slots := 0, locals := 40 * d' } 0 0 n :=
  callB_of n F.2.2.2.2.1 (tb_good y b nL' ret' (fun _ h => h) L.2.1) rfl rfl rfl (F.2.2.2.2.1 _ L.1) (F.2.2.2.2.1 _ hl) ⟨L.2.2.1, L.2.2.2.1, L.2.2.2.2⟩
    ⟨by rw [F.2.2.2.2.2.2.2.2.2.1]; exact hdd, by rw [F.2.2.2.2.2.2.2.2.2.2.1]; show 8 + (nL' + 11) + 40 * d' ≤ 40 * d; omega⟩
theorem jr_callV (F : Fx G X own cc nL d ret) {i k ci d' nL' n : Nat} {y : MethodName} {b : ByteArray} {ret' : Option FieldType} {fs : List Nat} {As : List Value} {q : vw_C} {post1 : Option Value → Wd → Prop} (hd : decode cc pc = .ok (.invokevirtual i, 3)) (L : Cv own i y b nL' ret' n)
    (hc : Sp G d' y b nL' ret' (.ref (ga G k) :: As) w post1) (hk : k < gn G) (hs : gS G k = .inr (ci, fs)) (hq : vwCl[ci]? = some q) (hqc : q.1 = y.cls) (hn : As.length = n) (hdd : d' + 1 ≤ d) (hml : nL' ≤ 21) (hst : st = As.reverse ++ .ref (ga G k) :: rest) (hcat : (rest.map fun v => v.category).sum ≤ 8)
    (kk : ∀ (v : Option Value) (w' : Wd), post1 v w' → Jw G X post (pc + 3) lv (v.toList ++ rest) w') : Jw G X post pc lv st w := by
  intro H locs ls hP hD hS hO hl
  refine sp_go F hD hS hl (va_runV (As := As) ⟨F.1, F.2.1, F.2.2.1, F.2.2.2.1, F.2.2.2.2.1⟩ (hc hO H.size) ⟨cb_of F L.1 L.2.1 hdd hml, F.2.2.2.2.1 _ L.2.2.1, F.2.2.2.2.1 _ L.2.2.2⟩ ⟨sp_blind, ?_, sp_pre F hP hD⟩ rfl hn (by rw [← F.2.2.1]; exact hl.1) hst (lv_room hcat) hd ⟨Nat.zero_le _, Nat.zero_le _⟩) kk
  rw [← hqc]
  exact va_recv F.2.2.2.2.2.1 hP hq (by rw [cels_get hk, cel_O hs])
theorem jr_callS (F : Fx G X own cc nL d ret) {i d' nL' n : Nat} {y : MethodName} {b : ByteArray} {ret' : Option FieldType} {As : List Value} {post1 : Option Value → Wd → Prop} (hd : decode cc pc = .ok (.invokestatic i, 3)) (L : Cs own i y b nL' ret' n)
    (hc : Sp G d' y b nL' ret' As w post1) (hn : As.length = n) (hdd : d' + 1 ≤ d) (hml : nL' ≤ 21) (hst : st = As.reverse ++ rest) (hcat : (rest.map fun v => v.category).sum ≤ 8)
    (kk : ∀ (v : Option Value) (w' : Wd), post1 v w' → Jw G X post (pc + 3) lv (v.toList ++ rest) w') : Jw G X post pc lv st w := by
  intro H locs ls hP hD hS hO hl
  exact sp_go F hD hS hl (va_runS (As := As) ⟨F.1, F.2.1, F.2.2.1, F.2.2.2.1, F.2.2.2.2.1⟩ (hc hO H.size) ⟨cb_of F L.1 L.2.1 hdd hml, F.2.2.2.2.1 _ L.2.2⟩ ⟨sp_blind, sp_pre F hP hD⟩ rfl hn (by rw [← F.2.2.1]; exact hl.1) hst (lv_room hcat) hd ⟨Nat.zero_le _, Nat.zero_le _⟩) kk
theorem jr_callN (F : Fx G X own cc nL d ret) {i d' nL' n : Nat} {y : MethodName} {b : ByteArray} {ret' : Option FieldType} {As : List Value} {post1 : Option Value → Wd → Prop} (hd : decode cc pc = .ok (.invokestatic i, 3)) (L : Cn own i y b nL' ret' n)
    (hc : Sp G d' y b nL' ret' As w post1) (hn : As.length = n) (hdd : d' + 1 ≤ d) (hml : nL' ≤ 21) (hst : st = As.reverse ++ rest) (hcat : (rest.map fun v => v.category).sum ≤ 8)
    (kk : ∀ (v : Option Value) (w' : Wd), post1 v w' → Jw G X post (pc + 3) lv (v.toList ++ rest) w') : Jw G X post pc lv st w := by
  intro H locs ls hP hD hS hO hl
  obtain ⟨L1, ⟨h, L2⟩, L3⟩ := L
  exact sp_go F hD hS hl (va_runSN (As := As) ⟨F.1, F.2.1, F.2.2.1, F.2.2.2.1, F.2.2.2.2.1⟩ (hc hO H.size) ⟨va_cnB n F.2.2.2.2.1 (tb_good y b nL' ret' (fun _ h => h) L1.2.1) rfl rfl rfl (F.2.2.2.2.2.2.1 _ L2) (F.2.2.2.2.1 _ L1.1) ⟨L1.2.2.1, L1.2.2.2.1, L1.2.2.2.2⟩ ⟨by rw [F.2.2.2.2.2.2.2.2.2.1]; exact hdd, by rw [F.2.2.2.2.2.2.2.2.2.2.1]; show 8 + (nL' + 11) + 40 * d' ≤ 40 * d; omega⟩, F.2.2.2.2.1 _ L3, trivial⟩ ⟨sp_blind, sp_pre F hP hD⟩ rfl hn (by rw [← F.2.2.1]; exact hl.1) hst (lv_room hcat) hd ⟨Nat.zero_le _, Nat.zero_le _⟩) kk
theorem jr_aret (F : Fx G X own cc nL d ret) {n : String} (hr : ret = some (.object n)) {a : Nat} (hd : decode cc pc = .ok (.areturn, 1)) (hp : post (some (.ref a)) w) : Jw G X post pc lv [.ref a] w := by
  subst hr
  intro H locs ls hP hD hS hO hl
  exact W.aret (hlocks := F.2.2.2.2.2.2.2.2.1) F.1 F.2.1 F.2.2.2.2.2.2.2.1 (Or.inl ⟨n, rfl⟩) (Or.inr ⟨a, rfl⟩) (fun t ht hW => jr_end F hp hP hD hS hO t ht hW) hS.2.2 hd
end JC
