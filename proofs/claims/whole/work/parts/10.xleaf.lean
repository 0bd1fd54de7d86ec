theorem Sp.ofF {G : Gc} {d : Nat} {y : MethodName} {cc : ByteArray} {nL : Nat} {ret : Option FieldType} {args : List Value} {w : Wd} {post : Option Value → Wd → Prop} (hy : plainFor y = true) (hn : (lg_sl args).length ≤ nL)
    (k : ∀ X : Xc, Fx G X y.cls cc nL d ret → Jw G X post 0 (ent args) [] w) : Sp G d y cc nL ret args w post := by
  intro hO sz
  refine va_MetF (cc := cc) (maxL := nL) (ret := ret) hy rfl ?_
  intro p e s m a below meth c s₁ B hml hv
  obtain ⟨rfl, hsz, hP, hK, hN, hD0⟩ := hv
  have hts := atoms_spec (ws := Cond.code y cc nL ret :: tb0) B.pre
  have hown : s.vm.findClass y.cls = some m.cls := findClass_of_methodNamed B.named
  subst hsz
  have hD := hD0.self (sz := s.heap.size)
  have hS : va_S (va_A (cels G w) s.heap.size) s.heap s.heap [] := va_S.rf
  have hl := lv_entry args (n := nL) hn
  rw [lg_entry_eq]
  exact k (p, e, { frames := d, cells := 0, slots := 0, locals := 40 * d }, s, m, args.toArray, below, meth, c, va_A (cels G w) s.heap.size)
    ⟨B.exec, B.bytes, hml, hown, fun q hq => hts q (List.mem_cons_of_mem _ hq), hK, hN, B.returns, B.notSynchronized, rfl, rfl, rfl, rfl, fun q h => Or.inr h⟩ s.heap [] _ hP hD hS hO (lh_ent (by rw [show (xc (p, e, ({ frames := d, cells := 0, slots := 0, locals := 40 * d } : Room), s, m, args.toArray, below, meth, c, va_A (cels G w) s.heap.size)).maxLocals = nL from hml]; exact hl))

set_option maxRecDepth 100000 in
set_option maxHeartbeats 4000000 in
theorem c_X7_at {B : Bs} {w : Wd} {k n : Nat} {i : Int} (hk : k < 34) (hs : shX k = .inl (0, n)) (hn : n < 2147483648) (hi : inR i) : Sp (GX B) 0 yX7_at cX7_at 2 (Option.some FieldType.int) [.ref (ga (GX B) (k)), iv (i)] w (pI w (rd w k n i)) := by
  refine Sp.of (by decide) (Nat.le_of_ble_eq_true rfl) (fun X F => ?_)
  show Jw (GX B) X _ 0 [some (.ref (ga (GX B) (k))), some (iv (i))] [] w
  refine jr_aload_n F dX7_at_0 rfl ?_
  refine jr_ifnull F dX7_at_1 ?_
  refine jr_iload_n F dX7_at_4 rfl ?_
  refine jr_if_lt (tgt := 20) F dX7_at_5 (by decide) (fun c5 => ?_) (fun c5 => ?_) (by omega)
  · skip
    refine jr_iconst F dX7_at_20 ?_
    exact jr_iret F dX7_at_21 (pI_of (by first | exact (rd_in (by omega) (by omega)).symm | exact (rd_out (by omega)).symm) rfl)
  · skip
    refine jr_iload_n F dX7_at_8 rfl ?_
    refine jr_aload_n F dX7_at_9 rfl ?_
    refine jr_alen F dX7_at_10 hk hs ?_
    refine jr_icmp_ge (tgt := 20) F dX7_at_11 (by decide) (fun c11 => ?_) (fun c11 => ?_) (by omega) (by omega)
    · skip
      refine jr_iconst F dX7_at_20 ?_
      exact jr_iret F dX7_at_21 (pI_of (by first | exact (rd_in (by omega) (by omega)).symm | exact (rd_out (by omega)).symm) rfl)
    · skip
      refine jr_aload_n F dX7_at_14 rfl ?_
      refine jr_iload_n F dX7_at_15 rfl ?_
      refine jr_iald F dX7_at_16 hk hs (by omega) (fun q16 => ?_) (by omega) (by omega)
      refine jr_goto (tgt := 21) F dX7_at_17 (by decide) ?_
      exact jr_iret F dX7_at_21 (pI_of (by first | exact (rd_in (by omega) (by omega)).symm | exact (rd_out (by omega)).symm) rfl)

set_option maxRecDepth 100000 in
set_option maxHeartbeats 4000000 in
theorem c_X7_put {B : Bs} {w : Wd} {k n : Nat} {i v : Int} (hk : k < 34) (hs : shX k = .inl (0, n)) (hn : n < 2147483648) (hi : inR i) (hv : inR v) : Sp (GX B) 0 yX7_put cX7_put 3 (Option.none : Option FieldType) [.ref (ga (GX B) (k)), iv (i), iv (v)] w (pV (wr w k n i v)) := by
  refine Sp.of (by decide) (Nat.le_of_ble_eq_true rfl) (fun X F => ?_)
  show Jw (GX B) X _ 0 [some (.ref (ga (GX B) (k))), some (iv (i)), some (iv (v))] [] w
  refine jr_aload_n F dX7_put_0 rfl ?_
  refine jr_ifnull F dX7_put_1 ?_
  refine jr_iload_n F dX7_put_4 rfl ?_
  refine jr_if_lt (tgt := 18) F dX7_put_5 (by decide) (fun c5 => ?_) (fun c5 => ?_) (by omega)
  · skip
    exact jr_vret F dX7_put_18 ⟨rfl, by first | exact wr_out (by omega) | (subst e17; exact wr_in (by omega) (by omega))⟩
  · skip
    refine jr_iload_n F dX7_put_8 rfl ?_
    refine jr_aload_n F dX7_put_9 rfl ?_
    refine jr_alen F dX7_put_10 hk hs ?_
    refine jr_icmp_ge (tgt := 18) F dX7_put_11 (by decide) (fun c11 => ?_) (fun c11 => ?_) (by omega) (by omega)
    · skip
      exact jr_vret F dX7_put_18 ⟨rfl, by first | exact wr_out (by omega) | (subst e17; exact wr_in (by omega) (by omega))⟩
    · skip
      refine jr_aload_n F dX7_put_14 rfl ?_
      refine jr_iload_n F dX7_put_15 rfl ?_
      refine jr_iload_n F dX7_put_16 rfl ?_
      refine jr_iastx F dX7_put_17 hk hs (by omega) (fun w17 e17 => ?_) (by omega) (by omega) (by omega)
      exact jr_vret F dX7_put_18 ⟨rfl, by first | exact wr_out (by omega) | (subst e17; exact wr_in (by omega) (by omega))⟩

theorem c_put_in {B : Bs} {w : Wd} {k n : Nat} {i v : Int} (hk : k < 34) (hs : shX k = .inl (0, n)) (hn : n < 2147483648) (h0 : 0 ≤ i) (h1 : i < n) (hv : inR v) : Sp (GX B) 0 yX7_put cX7_put 3 (none) [.ref (ga (GX B) k), iv i, iv v] w (pV (up w k i v)) := by
  have h := c_X7_put (B := B) (w := w) hk hs hn (show inR i by omega) hv
  rwa [wr_in h0 h1] at h
theorem c_at_in {B : Bs} {w : Wd} {k n : Nat} {i : Int} (hk : k < 34) (hs : shX k = .inl (0, n)) (hn : n < 2147483648) (h0 : 0 ≤ i) (h1 : i < n) : Sp (GX B) 0 yX7_at cX7_at 2 (some .int) [.ref (ga (GX B) k), iv i] w (pI w (w k i)) := by
  have h := c_X7_at (B := B) (w := w) hk hs hn (show inR i by omega)
  rwa [rd_in h0 h1] at h

set_option maxRecDepth 100000 in
set_option maxHeartbeats 4000000 in
theorem c_X7_within {B : Bs} {w : Wd} {v a b : Int} (hv : inR v) (ha : inR a) (hb : inR b) : Sp (GX B) 0 yX7_within cX7_within 3 (Option.some FieldType.boolean) [iv (v), iv (a), iv (b)] w (pI w (bi (a ≤ v ∧ v ≤ b))) := by
  refine Sp.of (by decide) (Nat.le_of_ble_eq_true rfl) (fun X F => ?_)
  show Jw (GX B) X _ 0 [some (iv (v)), some (iv (a)), some (iv (b))] [] w
  refine jr_iload_n F dX7_within_0 rfl ?_
  refine jr_iload_n F dX7_within_1 rfl ?_
  refine jr_icmp_lt (tgt := 14) F dX7_within_2 (by decide) (fun c2 => ?_) (fun c2 => ?_) (by omega) (by omega)
  · skip
    refine jr_iconst F dX7_within_14 ?_
    exact jr_zret F dX7_within_15 (pI_of (bi_f (by omega)).symm rfl) (by omega)
  · skip
    refine jr_iload_n F dX7_within_5 rfl ?_
    refine jr_iload_n F dX7_within_6 rfl ?_
    refine jr_icmp_gt (tgt := 14) F dX7_within_7 (by decide) (fun c7 => ?_) (fun c7 => ?_) (by omega) (by omega)
    · skip
      refine jr_iconst F dX7_within_14 ?_
      exact jr_zret F dX7_within_15 (pI_of (bi_f (by omega)).symm rfl) (by omega)
    · skip
      refine jr_iconst F dX7_within_10 ?_
      refine jr_goto (tgt := 15) F dX7_within_11 (by decide) ?_
      exact jr_zret F dX7_within_15 (pI_of (bi_t (by omega)).symm rfl) (by omega)

set_option maxRecDepth 100000 in
set_option maxHeartbeats 4000000 in
theorem c_J_max {B : Bs} {w : Wd} {a b : Int} (ha : inR a) (hb : inR b) : Sp (GX B) 0 yJ_max cJ_max 2 (Option.some FieldType.int) [iv (a), iv (b)] w (pI w (max a b)) := by
  refine Sp.ofF (by decide +kernel) (Nat.le_of_ble_eq_true rfl) (fun X F => ?_)
  show Jw (GX B) X _ 0 [some (iv (a)), some (iv (b))] [] w
  refine jr_iload_n F dJ_max_0 rfl ?_
  refine jr_iload_n F dJ_max_1 rfl ?_
  refine jr_icmp_lt (tgt := 9) F dJ_max_2 (by decide) (fun c2 => ?_) (fun c2 => ?_) (by omega) (by omega)
  · skip
    refine jr_iload_n F dJ_max_9 rfl ?_
    exact jr_iret F dJ_max_10 (pI_of (by first | rfl | omega) rfl)
  · skip
    refine jr_iload_n F dJ_max_5 rfl ?_
    refine jr_goto (tgt := 10) F dJ_max_6 (by decide) ?_
    exact jr_iret F dJ_max_10 (pI_of (by first | rfl | omega) rfl)

set_option maxRecDepth 100000 in
set_option maxHeartbeats 4000000 in
theorem c_J_min {B : Bs} {w : Wd} {a b : Int} (ha : inR a) (hb : inR b) : Sp (GX B) 0 yJ_min cJ_min 2 (Option.some FieldType.int) [iv (a), iv (b)] w (pI w (min a b)) := by
  refine Sp.ofF (by decide +kernel) (Nat.le_of_ble_eq_true rfl) (fun X F => ?_)
  show Jw (GX B) X _ 0 [some (iv (a)), some (iv (b))] [] w
  refine jr_iload_n F dJ_min_0 rfl ?_
  refine jr_iload_n F dJ_min_1 rfl ?_
  refine jr_icmp_gt (tgt := 9) F dJ_min_2 (by decide) (fun c2 => ?_) (fun c2 => ?_) (by omega) (by omega)
  · skip
    refine jr_iload_n F dJ_min_9 rfl ?_
    exact jr_iret F dJ_min_10 (pI_of (by first | rfl | omega) rfl)
  · skip
    refine jr_iload_n F dJ_min_5 rfl ?_
    refine jr_goto (tgt := 10) F dJ_min_6 (by decide) ?_
    exact jr_iret F dJ_min_10 (pI_of (by first | rfl | omega) rfl)

