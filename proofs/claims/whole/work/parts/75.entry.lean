/-! the entry -/
theorem in_X0 : Cond.instantiable RX0 2 ∈ tb0 := (tb_in 201 (by decide +kernel) (by decide +kernel))
theorem in_X1 : Cond.instantiable RX1 18 ∈ tb0 := (tb_in 195 (by decide +kernel) (by decide +kernel))
theorem in_X2 : Cond.instantiable RX2 4 ∈ tb0 := (tb_in 176 (by decide +kernel) (by decide +kernel))
theorem in_X3 : Cond.instantiable RX3 5 ∈ tb0 := (tb_in 84 (by decide +kernel) (by decide +kernel))
theorem in_X4 : Cond.instantiable RX4 3 ∈ tb0 := (tb_in 132 (by decide +kernel) (by decide +kernel))
theorem in_X5 : Cond.instantiable RX5 7 ∈ tb0 := (tb_in 148 (by decide +kernel) (by decide +kernel))
theorem in_X6 : Cond.instantiable RX6 5 ∈ tb0 := (tb_in 107 (by decide +kernel) (by decide +kernel))
theorem in_X7 : Cond.instantiable RX7 9 ∈ tb0 := (tb_in 76 (by decide +kernel) (by decide +kernel))
theorem in_X8 : Cond.instantiable RX8 34 ∈ tb0 := (tb_in 901 (by decide +kernel) (by decide +kernel))
theorem arr_of {s : State} {args : Array Value} {ty : FieldType} (h : (Cond.arrayClass ty).before args s = true) (hr : ∀ cA, s.vm.findClass ("[" ++ ty.toString) = some cA → va_RA s cA ty) : ∃ cA : ClassId, ArrOfT s cA ty ∧ va_RA s cA ty := by
  obtain ⟨cA, kA, comp, h1, h2, h3⟩ := Cond.arrayClass_spec h
  exact ⟨cA, fun n z => ⟨fun k h => (by cases h), kA, h2, comp, h3⟩, hr cA h1⟩
theorem nws_of {s : State} {args : Array Value} (hts : ∀ w ∈ lw_tbl, w.before args s = true) : NWs s := by
  intro q hq
  obtain ⟨c, hc, e⟩ := List.mem_filterMap.mp hq
  cases c <;> simp only [Option.some.injEq, reduceCtorEq] at e
  subst e
  exact va_Nw.of rfl (hts _ hc)
theorem know {s : State} {args : Array Value} (hts : ∀ w ∈ tb0, w.before args s = true) : ∃ (D : va_G) (t : Nat → ClassId), va_K D vwCl (tys t) s := by
  obtain ⟨c0, s0, k0⟩ := u_known hts wsX0_in (hts _ in_X0)
  obtain ⟨c1, s1, k1⟩ := u_known hts wsX1_in (hts _ in_X1)
  obtain ⟨c2, s2, k2⟩ := u_known hts wsX2_in (hts _ in_X2)
  obtain ⟨c3, s3, k3⟩ := u_known hts wsX3_in (hts _ in_X3)
  obtain ⟨c4, s4, k4⟩ := u_known hts wsX4_in (hts _ in_X4)
  obtain ⟨c5, s5, k5⟩ := u_known hts wsX5_in (hts _ in_X5)
  obtain ⟨c6, s6, k6⟩ := u_known hts wsX6_in (hts _ in_X6)
  obtain ⟨c7, s7, k7⟩ := u_known hts wsX7_in (hts _ in_X7)
  obtain ⟨c8, s8, k8⟩ := u_known hts wsX8_in (hts _ in_X8)
  obtain ⟨t0, a0⟩ := arr_of (hts _ ac_int) (fun cA h => h)
  obtain ⟨t1, a1⟩ := arr_of (hts _ ac_byte) (fun cA h => h)
  obtain ⟨t2, a2⟩ := arr_of (hts _ ac_boolean) (fun cA h => h)
  refine ⟨(fun c => match c with | 0 => c0 | 1 => c1 | 2 => c2 | 3 => c3 | 4 => c4 | 5 => c5 | 6 => c6 | 7 => c7 | _ => c8, fun c => match c with | 0 => s0 | 1 => s1 | 2 => s2 | 3 => s3 | 4 => s4 | 5 => s5 | 6 => s6 | 7 => s7 | _ => s8), fun k => match k with | 0 => t0 | 1 => t1 | _ => t2, fun c q h => ?_, fun k q h => ?_⟩
  · match c, h with
    | 0, h => cases h; exact k0
    | 1, h => cases h; exact k1
    | 2, h => cases h; exact k2
    | 3, h => cases h; exact k3
    | 4, h => cases h; exact k4
    | 5, h => cases h; exact k5
    | 6, h => cases h; exact k6
    | 7, h => cases h; exact k7
    | 8, h => cases h; exact k8
    | c + 9, h => cases h
  · match k, h with
    | 0, h => cases h; exact a0
    | 1, h => cases h; exact a1
    | 2, h => cases h; exact a2
    | k + 3, h => cases h
theorem law_all {p : Program} {e : Env} {s : State} {m : MethodId} {below : List Frame} {meth : Method} {c : Code} (l : Launch) {b L : Nat} {xs : Nat → Int32} (hL : L ≤ 3584) (C0 : lw_At p s m meth c b L xs) : W p l e room_1 s m #[Value.ref b] below meth c s.heap [] 0 0 (lw_Z below #[Value.ref b] s) (entryFrame m ([Value.ref b] : List Value).toArray 4) := by
  obtain ⟨hx, hb, hr, hml, hown, hts, hX, hbl, hlk, -⟩ := C0
  have htb : ∀ w ∈ tb0, w.before #[Value.ref b] s = true := fun w h => hts w (List.mem_filter.mp h).1
  obtain ⟨D, t, hK⟩ := know htb
  have hN := nws_of hts
  have F : KF D t (p, e, room_1, s, m, #[Value.ref b], below, meth, c, fun q => s.heap.size ≤ q) RL code 4 room_1 := ⟨hx, hb, hml, hown, htb, hK, hN, rfl, fun q h => h⟩
  have hl := lv_entry [Value.ref b] (n := 4) (Nat.le_of_ble_eq_true rfl)
  rw [lg_entry_eq]
  refine law_new (l := l) (Q := lw_Z below #[Value.ref b] s) F (fun a a' z z' => ?_) s.heap [] _ (fun k q h => (by cases h)) ⟨fun i j p q h => (by cases h), fun k q h => (by cases h)⟩ va_S.rf (show lh _ c.maxLocals (ent [Value.ref b]) from lh_ent (by rw [hml]; exact hl))
  intro H locs ls hP hD hS hlv
  refine W.widen (k := 600000) (n := 7302250) (by decide) (by decide) ?_
  have FL : LF (l, p, e, s, m, below, meth, c, (b, L, xs), (adr a z, adr a' z', D, t)) := ⟨hx, hb, hml, hown, htb, hK, hN, hr, hlk, hX, hbl, fun k j hk hj => ab_dis (G := GX (l, adr a z, D, t)) (G' := GM (l, adr a' z', D, t)) hD hk hj, hL⟩
  exact law_loop FL (L + 1) 0 (by omega) (by omega) (by show (L : Int) - 0 < ((L + 1 : Nat) : Int); omega) (w0X, w0M) ⟨IX_0, RM_0⟩ H locs ls ⟨va_P_l hP, va_P_r hP⟩ ⟨va_D_l hD, va_D_r hD⟩ hS ⟨okX0 _, okM0 _⟩ hlv
