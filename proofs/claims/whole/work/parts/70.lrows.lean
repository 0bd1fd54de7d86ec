/-! THE CLAIM OUT OF ONE WALK OF THE LAW'S BODY. Your part is whole_start (and what it stands on); all else here is the same for every law, but numbers. -/
def R_law : String := "ReignLaddersLaw"
def lw_P (b : Addr) (xs : List Int32) (args : Array Value) (s : State) : Prop := args = #[.ref b] ∧ s.IntsAt b xs ∧ xs.length ≤ 3584 ∧ (Jvm.Cond.and given_1 narrow_1).before args s = true
def lw_Q (_ : Array Value) (s : State) (o : Outcome) (t : State) : Prop := o = .returned (some (.int 1)) ∧ Framed s o t [] 600000 7302250
def lw_Z (below : List Frame) (a : Array Value) (s : State) : State → Prop := fun t => ∃ o, t.status = .running ∧ Ended t below o ∧ lw_Q a s o t
/-- the law's own end, with 1 on the stack, nothing written that was there before, its room as the claim has it -/
theorem lw_ret {p : Program} {l : Launch} {e : Env} {s : State} {m : MethodId} {below : List Frame} {meth : Method} {c : Code} {b : Nat} (hx : p.tables.exec = Jvm.exec) (hb : c.code = code) (hr : meth.sig.returnType = ret) (hlocks : meth.locks = false) {pc : Nat} {H : Heap} {ls : Array Slot} (hdg : decode code pc = .ok (.ireturn, 1)) : W p l e room_1 s m #[Value.ref b] below meth c H [] 600000 7302250 (lw_Z below #[Value.ref b] s) (F0 m pc ls [.int 1]) := by
  intro T hT X
  obtain ⟨fs, hret, hrun, hended, hW, hframe⟩ := X.leave (v := some (.int 1)) (hlocks := hlocks) (fun h => by rw [hr] at h; cases h)
  have hmeth' : T.vm.method? m = some meth := X.method'
  refine ⟨T.setFrames fs, ?_, .returned (some (.int 1)), hrun, hended, rfl, ⟨_, rfl⟩, hW, hframe⟩
  jvm_step X.here [X.here.top, hx, hb, hdg, hmeth', hr, ret, narrow_b1]
  (try refine ⟨rfl, ?_⟩); (try refine ⟨rfl, ?_⟩)
  first | (intro acts; rw [hret _ acts rfl rfl rfl]) | rw [hret _ _ rfl rfl rfl]
  exact Steps.refl _
/-- what holds at the law's entry: the machine, the code, the tables' words (any of lw_tbl by 'hts w (by decide +kernel)'), the script of L ints xs at the cell b, what the Statement gives of the start (any of its parts by flat_of_before) -/
def lw_At (p : Program) (s : State) (m : MethodId) (meth : Method) (c : Code) (b L : Nat) (xs : Nat → Int32) : Prop :=
  p.tables.exec = Jvm.exec ∧ c.code = code ∧ meth.sig.returnType = ret ∧ c.maxLocals = 4 ∧ s.vm.findClass R_law = some m.cls ∧ (∀ w ∈ lw_tbl, w.before #[Value.ref b] s = true) ∧ va_X b L xs s s.heap ∧ b < s.heap.size ∧ meth.locks = false ∧ (Jvm.Cond.and given_1 narrow_1).before #[Value.ref b] s = true
/-! the law's walk: both sides' worlds at once -/
abbrev Yc : Type := Launch × Program × Env × State × MethodId × List Frame × Method × Code × (Nat × Nat × (Nat → Int32)) × ((Nat → Nat) × (Nat → Nat) × va_G × (Nat → ClassId))
abbrev yl (Y : Yc) : Launch := Y.1
abbrev yp (Y : Yc) : Program := Y.2.1
abbrev ye (Y : Yc) : Env := Y.2.2.1
abbrev ys (Y : Yc) : State := Y.2.2.2.1
abbrev ym (Y : Yc) : MethodId := Y.2.2.2.2.1
abbrev yb (Y : Yc) : List Frame := Y.2.2.2.2.2.1
abbrev yt (Y : Yc) : Method := Y.2.2.2.2.2.2.1
abbrev yc (Y : Yc) : Code := Y.2.2.2.2.2.2.2.1
abbrev ya (Y : Yc) : Nat := Y.2.2.2.2.2.2.2.2.1.1
abbrev yL (Y : Yc) : Nat := Y.2.2.2.2.2.2.2.2.1.2.1
abbrev yx (Y : Yc) : Nat → Int32 := Y.2.2.2.2.2.2.2.2.1.2.2
abbrev yz (Y : Yc) : (Nat → Nat) × (Nat → Nat) × va_G × (Nat → ClassId) := Y.2.2.2.2.2.2.2.2.2
abbrev bx (Y : Yc) : Bs := (yl Y, (yz Y).1, (yz Y).2.2.1, (yz Y).2.2.2)
abbrev bm (Y : Yc) : Bs := (yl Y, (yz Y).2.1, (yz Y).2.2.1, (yz Y).2.2.2)
abbrev W2 : Type := Wd × Wd
abbrev yA (Y : Yc) : Nat → Prop := fun q => (ys Y).heap.size ≤ q
def LPs (Y : Yc) (w : W2) (H : Heap) : Prop := va_P (yz Y).2.2.1 vwCl (cels (GX (bx Y)) w.1) H ∧ va_P (yz Y).2.2.1 vwCl (cels (GM (bm Y)) w.2) H
def LD2 (Y : Yc) (w : W2) : Prop := va_D (yA Y) (cels (GX (bx Y)) w.1) ∧ va_D (yA Y) (cels (GM (bm Y)) w.2)
def LO (Y : Yc) (w : W2) : Prop := okW (GX (bx Y)) w.1 ∧ okW (GM (bm Y)) w.2
def LW (Y : Yc) (pc : Nat) (lv : List (Option Value)) (st : List Value) (w : W2) : Prop :=
  ∀ (H : Heap) (locs : List Loc) (ls : Array Slot), LPs Y w H → LD2 Y w → va_S (yA Y) (ys Y).heap H locs → LO Y w → lh ls (yc Y).maxLocals lv →
    W (yp Y) (yl Y) (ye Y) room_1 (ys Y) (ym Y) #[Value.ref (ya Y)] (yb Y) (yt Y) (yc Y) H locs 600000 7302250 (lw_Z (yb Y) #[Value.ref (ya Y)] (ys Y)) (F0 (ym Y) pc ls st)
/-- what holds all along the law's walk -/
def LF (Y : Yc) : Prop :=
  (yp Y).tables.exec = Jvm.exec ∧ (yc Y).code = code ∧ (yc Y).maxLocals = 4 ∧ (ys Y).vm.findClass RL = some (ym Y).cls ∧ (∀ q ∈ tb0, q.before #[Value.ref (ya Y)] (ys Y) = true) ∧ va_K (yz Y).2.2.1 vwCl (gT (GX (bx Y))) (ys Y) ∧ NWs (ys Y) ∧
  (yt Y).sig.returnType = ret ∧ (yt Y).locks = false ∧ va_X (ya Y) (yL Y) (yx Y) (ys Y) (ys Y).heap ∧ ya Y < (ys Y).heap.size ∧ (∀ k j : Nat, k < 34 → j < 25 → ¬ (yz Y).1 k = (yz Y).2.1 j) ∧ yL Y ≤ 3584
section LR
variable {Y : Yc} {pc : Nat} {lv : List (Option Value)} {rest : List Value} {w : W2}
theorem lr_iconst (F : LF Y) {n : Int} (hd : decode code pc = .ok (.iconst n, 1))
    (k : LW Y (pc + 1) lv (iv n :: rest) w) : LW Y pc lv rest w := by
  intro H locs ls hP hD hS hO hl
  exact lv_iconst F.1 F.2.1 hd rfl (k H locs ls hP hD hS hO hl)
theorem lr_bipush (F : LF Y) {n : Int} (hd : decode code pc = .ok (.bipush n, 2)) (hv : (Int8.ofInt n).toInt32 = Int32.ofInt n)
    (k : LW Y (pc + 2) lv (iv n :: rest) w) : LW Y pc lv rest w := by
  intro H locs ls hP hD hS hO hl
  exact lv_bipush F.1 F.2.1 hd hv (k H locs ls hP hD hS hO hl)
theorem lr_ldc2 (F : LF Y) {i : Nat} {z : Int} (hd : decode code pc = .ok (.ldc2_w i, 3)) (hw : Cond.constantLong RL i (Int64.ofInt z) ∈ tb0)
    (k : LW Y (pc + 3) lv (lq z :: rest) w) : LW Y pc lv rest w := by
  intro H locs ls hP hD hS hO hl
  exact lv_ldc2 F.1 F.2.1 F.2.2.2.1 (F.2.2.2.2.1 _ hw) hd (k H locs ls hP hD hS hO hl)
theorem lr_iload_n (F : LF Y) {i : Fin 4} {x : Int32} (hd : decode code pc = .ok (.iload_n i, 1)) (hl : lg lv (i : Nat) = some (.int x))
    (k : LW Y (pc + 1) lv (.int x :: rest) w) : LW Y pc lv rest w := by
  intro H locs ls hP hD hS hO hl'
  exact lv_iload_n F.1 F.2.1 hd rfl (hl'.at hl) (k H locs ls hP hD hS hO hl')
theorem lr_aload_n (F : LF Y) {i : Fin 4} {x : Nat} (hd : decode code pc = .ok (.aload_n i, 1)) (hl : lg lv (i : Nat) = some (.ref x))
    (k : LW Y (pc + 1) lv (.ref x :: rest) w) : LW Y pc lv rest w := by
  intro H locs ls hP hD hS hO hl'
  exact lv_aload_n F.1 F.2.1 hd rfl (hl'.at hl) (k H locs ls hP hD hS hO hl')
theorem lr_istore_n (F : LF Y) {i : Fin 4} {x : Int32} (hd : decode code pc = .ok (.istore_n i, 1)) (hn : (i : Nat) < 4) (ho : okst lv (i : Nat) = true)
    (k : LW Y (pc + 1) (lst lv (i : Nat) (some (.int x))) rest w) : LW Y pc lv (.int x :: rest) w := by
  intro H locs ls hP hD hS hO hl
  exact lv_istore_n F.1 F.2.1 hd rfl hl.has (by rw [F.2.2.1]; exact hn) rfl (fun ls' h' => k H locs ls' hP hD hS hO (lh_st1 ho h'))
theorem lr_iadd (F : LF Y) {a b : Int} (hd : decode code pc = .ok (.iadd, 1))
    (k : LW Y (pc + 1) lv (iv (a + b) :: rest) w) : LW Y pc lv (iv b :: iv a :: rest) w := by
  intro H locs ls hP hD hS hO hl
  have h := k H locs ls hP hD hS hO hl
  rw [iv, Int32.ofInt_add] at h
  exact lv_iadd F.1 F.2.1 hd h
theorem lr_isub (F : LF Y) {a b : Int} (hd : decode code pc = .ok (.isub, 1))
    (k : LW Y (pc + 1) lv (iv (a - b) :: rest) w) : LW Y pc lv (iv b :: iv a :: rest) w := by
  intro H locs ls hP hD hS hO hl
  have h := k H locs ls hP hD hS hO hl
  rw [iv, Int32.ofInt_sub] at h
  exact lv_isub F.1 F.2.1 hd h
theorem lr_iand (F : LF Y) {x y : Int32} (hd : decode code pc = .ok (.iand, 1))
    (k : LW Y (pc + 1) lv (.int (x &&& y) :: rest) w) : LW Y pc lv (.int y :: .int x :: rest) w := by
  intro H locs ls hP hD hS hO hl
  exact lv_iand F.1 F.2.1 hd (k H locs ls hP hD hS hO hl)
theorem lr_land (F : LF Y) {x y : Int64} (hd : decode code pc = .ok (.land, 1))
    (k : LW Y (pc + 1) lv (.long (x &&& y) :: rest) w) : LW Y pc lv (.long y :: .long x :: rest) w := by
  intro H locs ls hP hD hS hO hl
  exact lv_land F.1 F.2.1 hd (k H locs ls hP hD hS hO hl)
theorem lr_lor (F : LF Y) {x y : Int64} (hd : decode code pc = .ok (.lor, 1))
    (k : LW Y (pc + 1) lv (.long (x ||| y) :: rest) w) : LW Y pc lv (.long y :: .long x :: rest) w := by
  intro H locs ls hP hD hS hO hl
  exact lv_lor F.1 F.2.1 hd (k H locs ls hP hD hS hO hl)
theorem lr_top (F : LF Y) {x : Int32} {z : Int} (hz : x = Int32.ofInt z)
    (k : LW Y pc lv (iv z :: rest) w) : LW Y pc lv (.int x :: rest) w := by
  intro H locs ls hP hD hS hO hl
  subst hz
  exact k H locs ls hP hD hS hO hl
theorem lr_topl (F : LF Y) {x : Int64} {z : Int} (hz : x = Int64.ofInt z)
    (k : LW Y pc lv (lq z :: rest) w) : LW Y pc lv (.long x :: rest) w := by
  intro H locs ls hP hD hS hO hl
  subst hz
  exact k H locs ls hP hD hS hO hl
theorem lr_icmp_eq (F : LF Y) {a b : Int} {off : Int} {tgt : Nat} (hd : decode code pc = .ok (.if_icmp .eq off, 3)) (ht : (pc : Int) + off = (tgt : Int))
    (kt : a = b → LW Y tgt lv rest w) (kf : ¬ a = b → LW Y (pc + 3) lv rest w) (ha : inR a) (hb : inR b) : LW Y pc lv (iv b :: iv a :: rest) w := by
  intro H locs ls hP hD hS hO hl
  exact lv_icmp_eq F.1 F.2.1 hd ht (fun h => kt (by exact (iv_eq ha hb).mp h) H locs ls hP hD hS hO hl) (fun h => kf (by exact fun q => h ((iv_eq ha hb).mpr q)) H locs ls hP hD hS hO hl)
theorem lr_if_eq (F : LF Y) {a : Int} {off : Int} {tgt : Nat} (hd : decode code pc = .ok (.ifCond .eq off, 3)) (ht : (pc : Int) + off = (tgt : Int))
    (kt : a = 0 → LW Y tgt lv rest w) (kf : ¬ a = 0 → LW Y (pc + 3) lv rest w) (ha : inR a) : LW Y pc lv (iv a :: rest) w := by
  intro H locs ls hP hD hS hO hl
  exact lv_if_eq F.1 F.2.1 hd ht (fun h => kt (by rw [iv_zero] at h; exact (iv_eq ha (show inR 0 by omega)).mp h) H locs ls hP hD hS hO hl) (fun h => kf (by rw [iv_zero] at h; exact fun q => h ((iv_eq ha (show inR 0 by omega)).mpr q)) H locs ls hP hD hS hO hl)
theorem lr_icmp_gt (F : LF Y) {a b : Int} {off : Int} {tgt : Nat} (hd : decode code pc = .ok (.if_icmp .gt off, 3)) (ht : (pc : Int) + off = (tgt : Int))
    (kt : b < a → LW Y tgt lv rest w) (kf : a ≤ b → LW Y (pc + 3) lv rest w) (ha : inR a) (hb : inR b) : LW Y pc lv (iv b :: iv a :: rest) w := by
  intro H locs ls hP hD hS hO hl
  exact lv_icmp_gt F.1 F.2.1 hd ht (fun h => kt (by exact (iv_lt hb ha).mp h) H locs ls hP hD hS hO hl) (fun h => kf (by exact Int.not_lt.mp (fun q => h ((iv_lt hb ha).mpr q))) H locs ls hP hD hS hO hl)
theorem lr_goto (F : LF Y) {off : Int} {tgt : Nat} (hd : decode code pc = .ok (.goto off, 3)) (ht : (pc : Int) + off = (tgt : Int))
    (k : LW Y tgt lv rest w) : LW Y pc lv rest w := by
  intro H locs ls hP hD hS hO hl
  exact lv_goto F.1 F.2.1 hd ht (k H locs ls hP hD hS hO hl)
theorem lr_tsIn (F : LF Y) {a dflt lo hi off : Int} {offs : Array Int} {len tgt : Nat} (v : Int) (hd : decode code pc = .ok (.tableswitch dflt lo hi offs, len)) (h : a = v) (h1 : lo ≤ v) (h2 : v ≤ hi) (ho : offs[(v - lo).toNat]? = some off) (ht : (pc : Int) + off = (tgt : Int)) (ha : inR v)
    (k : LW Y tgt lv rest w) : LW Y pc lv (iv a :: rest) w := by
  intro H locs ls hP hD hS hO hl
  subst h
  exact lv_tableIn F.1 F.2.1 hd (by rw [iv_toInt ha]; omega) (by rw [iv_toInt ha]; omega) (by rw [iv_toInt ha]; exact ho) ht (k H locs ls hP hD hS hO hl)
theorem lr_iinc (F : LF Y) {i : Nat} {n a : Int} (hd : decode code pc = .ok (.iinc i n, 3)) (hi : lg lv i = some (iv a)) (hn : i < 4) (ho : okst lv i = true)
    (k : LW Y (pc + 3) (lst lv i (some (iv (a + n)))) rest w) : LW Y pc lv rest w := by
  intro H locs ls hP hD hS hO hl
  obtain ⟨q, hq⟩ := asc_at (ls := ls) (nL := 4) hi
  exact lv_iinc (v := Int32.ofInt (a + n)) F.1 F.2.1 hd hl.has hq (by rw [Int32.ofInt_add]) (by rw [F.2.2.1]; exact hn) rfl (fun ls' h' => k H locs ls' hP hD hS hO (lh_st1 ho h'))
theorem lr_i2l (F : LF Y) {a : Int} (hd : decode code pc = .ok (.i2l, 1)) (ha : inR a)
    (k : LW Y (pc + 1) lv (lq a :: rest) w) : LW Y pc lv (iv a :: rest) w := by
  intro H locs ls hP hD hS hO hl
  exact lv_i2l F.1 F.2.1 hd (Int32.toInt64_ofInt (by rw [iv_min]; exact ha.1) (by rw [iv_max]; exact ha.2)) (k H locs ls hP hD hS hO hl)
theorem lr_lshl (F : LF Y) {x : Int64} {y : Int32} (hd : decode code pc = .ok (.lshl, 1))
    (k : LW Y (pc + 1) lv (.long (x <<< (y.toInt64 &&& 63)) :: rest) w) : LW Y pc lv (.int y :: .long x :: rest) w := by
  intro H locs ls hP hD hS hO hl
  exact lv_lshl F.1 F.2.1 hd rfl (k H locs ls hP hD hS hO hl)
theorem lr_lcmp (F : LF Y) {x y : Int64} (hd : decode code pc = .ok (.lcmp, 1))
    (k : LW Y (pc + 1) lv (.int (lg_cmp x y) :: rest) w) : LW Y pc lv (.long y :: .long x :: rest) w := by
  intro H locs ls hP hD hS hO hl
  exact W.lcmp F.1 F.2.1 hd (k H locs ls hP hD hS hO hl)
theorem lr_sub {lv' : List (Option Value)} {st : List Value} (k : LW Y pc lv' st w) (h : lvle lv' lv) : LW Y pc lv st w :=
  fun H locs ls hP hD hS hO hl => k H locs ls hP hD hS hO ⟨hl.1, hl.2.1, fun i v e => hl.2.2 i v (lvle_lg lv' lv h i v e)⟩
theorem lr_ok {st : List Value} (k : LO Y w → LW Y pc lv st w) : LW Y pc lv st w := fun H locs ls hP hD hS hO hl => k hO H locs ls hP hD hS hO hl
theorem lr_ti {a b : Int} (h : a = b) (k : LW Y pc lv (iv b :: rest) w) : LW Y pc lv (iv a :: rest) w := by rw [h]; exact k
def sx (Y : Yc) (i : Int) : Int := (yx Y i.toNat).toInt
theorem sx_R (Y : Yc) (i : Int) : inR (sx Y i) := by
  have h1 := Int32.le_toInt (yx Y i.toNat)
  have h2 := Int32.toInt_lt (yx Y i.toNat)
  unfold sx
  omega
theorem lr_sld (F : LF Y) {i : Int} (hd : decode code pc = .ok (.iaload, 1)) (h0 : 0 ≤ i) (h1 : i < yL Y)
    (k : LW Y (pc + 1) lv (iv (sx Y i) :: rest) w) : LW Y pc lv (iv i :: .ref (ya Y) :: rest) w := by
  intro H locs ls hP hD hS hO hl
  have hL := F.2.2.2.2.2.2.2.2.2.2.2.2
  have h := k H locs ls hP hD hS hO hl
  have e : iv (sx Y i) = .int (yx Y (Int32.ofInt i).toNatClampNeg) := by
    rw [iv_clamp (by omega)]
    show Value.int (Int32.ofInt (yx Y i.toNat).toInt) = _
    rw [Int32.ofInt_toInt]
  rw [e] at h
  exact va_sld F.1 F.2.1 F.2.2.2.2.2.2.2.2.2.1 F.2.2.2.2.2.2.2.2.2.2.1 (Nat.not_le.mpr F.2.2.2.2.2.2.2.2.2.2.1) hS (iv_in (by omega) h0 h1) hd h
theorem lr_slen (F : LF Y) (hd : decode code pc = .ok (.arraylength, 1))
    (k : LW Y (pc + 1) lv (iv (yL Y) :: rest) w) : LW Y pc lv (.ref (ya Y) :: rest) w := by
  intro H locs ls hP hD hS hO hl
  have h := k H locs ls hP hD hS hO hl
  rw [iv, Int32.ofInt_eq_ofNat] at h
  exact va_slen F.1 F.2.1 F.2.2.2.2.2.2.2.2.2.1 F.2.2.2.2.2.2.2.2.2.2.1 (Nat.not_le.mpr F.2.2.2.2.2.2.2.2.2.2.1) hS hd h
theorem lr_end (F : LF Y) (hd : decode code pc = .ok (.ireturn, 1)) : LW Y pc lv [.int 1] w := by
  intro H locs ls hP hD hS hO hl
  exact va_forget (fun q hq => hS.2.2 q hq) (lw_ret F.1 F.2.1 F.2.2.2.2.2.2.2.1 F.2.2.2.2.2.2.2.2.1 hd)
theorem ap_in {G : Gc} {w : Wd} {q : Nat} (k : Nat) (h : k < gn G) (e : ga G k = q) (sz : Nat) : va_A (cels G w) sz q := Or.inl ⟨k, cel G w k, by rw [cels_get h, e]⟩
/-- behind a call on one side the other stands as it was -/
theorem lp_keep {D : va_G} {G G' : Gc} {w w' : Wd} {H H1 : Heap} (hP : va_P D vwCl (cels G' w') H) (hk : ∀ q : Nat, q < H.size → ¬ va_A (cels G w) H.size q → H1[q]? = H[q]?) (hd : ∀ k j : Nat, k < gn G → j < gn G' → ¬ ga G k = ga G' j) : va_P D vwCl (cels G' w') H1 := by
  intro j q hq
  have hat := hP j q hq
  have hlt := hat.lt
  have hj : j < gn G' := by
    rcases (show j < gn G' ∨ gn G' ≤ j by omega) with h | h
    · exact h
    · rw [List.getElem?_eq_none (by simp [cels]; omega)] at hq; cases hq
  rw [cels_get hj] at hq
  cases hq
  refine hat.kept (hk _ hlt (fun h => ?_))
  rcases h with ⟨k, e, h⟩ | h
  · have hk2 : k < gn G := by
      rcases (show k < gn G ∨ gn G ≤ k by omega) with y | y
      · exact y
      · rw [List.getElem?_eq_none (by simp [cels]; omega)] at h; cases h
    rw [cels_get hk2] at h
    injection h with h
    exact hd k j hk2 hj (congrArg Prod.fst h)
  · exact absurd h (Nat.not_le.mpr hlt)
theorem lp_pre {G : Gc} {args : List Value} {H : Heap} {u : Wd} (F : LF Y) (eD : gD G = (yz Y).2.2.1) (eT : gT G = gT (GX (bx Y))) (hP : va_P (gD G) vwCl (cels G u) H) (hD : va_D (yA Y) (cels G u)) : ∀ U : State, U.heap = H → (ys Y).WarmedH U.vm → va_Pc args (fun U => U.heap.size = H.size ∧ va_P (gD G) vwCl (cels G u) U.heap ∧ va_K (gD G) vwCl (gT G) U ∧ NWs U ∧ va_D (fun _ => True) (cels G u)) args.toArray U :=
  fun U hU hW => ⟨rfl, by rw [hU], by rw [hU]; exact hP, by rw [eD, eT]; exact va_K.moved hW.alike F.2.2.2.2.2.1, NWs.warm hW F.2.2.2.2.2.2.1, hD.weaken (fun _ _ _ _ => trivial)⟩
theorem lcb_of {y : MethodName} {b : ByteArray} {nL' n d' i : Nat} {ret' : Option FieldType} (F : LF Y) (L : Cb y b nL' ret' n) (hl : Cond.methodLink RL i y ∈ tb0) (hr : d' + 1 ≤ 10 ∧ 8 + (nL' + 11) + 40 * d' ≤ 400) :
    CallB room_1 (ys Y) #[Value.ref (ya Y)] RL i y b nL' ret' (Cond.code y b nL' ret' :: tb0) { frames := d', cells := 0, slots := 0, locals := 40 * d' } 0 0 n :=
  callB_of n F.2.2.2.2.1 (tb_good y b nL' ret' (fun _ h => h) L.2.1) rfl rfl rfl (F.2.2.2.2.1 _ L.1) (F.2.2.2.2.1 _ hl) ⟨L.2.2.1, L.2.2.2.1, L.2.2.2.2⟩ ⟨hr.1, hr.2⟩
theorem lr_goX {st : List Value} {post1 : Option Value → Wd → Prop} {a : Array Value} {H : Heap} {locs : List Loc} {ls : Array Slot} (F : LF Y) (hP : LPs Y w H) (hD : LD2 Y w) (hS : va_S (yA Y) (ys Y).heap H locs) (hO : LO Y w) (hl : lh ls (yc Y).maxLocals lv)
    (hr : va_Run (yp Y) (yl Y) (ye Y) room_1 (ys Y) (ym Y) #[Value.ref (ya Y)] (yb Y) (yt Y) (yc Y) H locs 600000 7302250 0 0 (F0 (ym Y) pc ls st) rest (Qg (GX (bx Y)) post1 (va_A (cels (GX (bx Y)) w.1) H.size) a) (va_A (cels (GX (bx Y)) w.1) H.size))
    (kk : ∀ (v : Option Value) (w' : Wd), post1 v w' → LW Y (pc + 3) lv (v.toList ++ rest) (w', w.2)) :
    W (yp Y) (yl Y) (ye Y) room_1 (ys Y) (ym Y) #[Value.ref (ya Y)] (yb Y) (yt Y) (yc Y) H locs 600000 7302250 (lw_Z (yb Y) #[Value.ref (ya Y)] (ys Y)) (F0 (ym Y) pc ls st) := by
  have hA : ∀ q, va_A (cels (GX (bx Y)) w.1) H.size q → yA Y q := fun q h => by
    rcases h with ⟨k, e, h⟩ | h
    · exact hD.1.2 k (q, e) h
    · exact Nat.le_trans hS.1 h
  intro T hT XX
  obtain ⟨v, st₀, t, T', L, h0, X', hL, e1, e2, ⟨⟨v', w', hv, hp, hO', hP', hK', hD'⟩, hz, hk⟩, go⟩ := hr T hT XX
  cases hv
  rw [h0] at hz hk
  have hPo : va_P (gD (GM (bm Y))) vwCl (cels (GM (bm Y)) w.2) t.heap := lp_keep (G := (GX (bx Y))) (w := w.1) hP.2 (fun q h1 h2 => hk q h1 h2) (F.2.2.2.2.2.2.2.2.2.2.2.1)
  obtain ⟨t2, a1, b1⟩ := kk v w' hp T'.heap (locs ++ L) ls (by rw [e1]; exact ⟨hP', hPo⟩) ⟨hD'.weaken (fun _ q _ h => hA q.1 h), hD.2⟩
    ⟨Nat.le_trans hS.1 (by rw [e1]; exact hz), fun q h1 h2 => by rw [e1, hk q (Nat.lt_of_lt_of_le h1 hS.1) (fun z => h2 (hA q z))]; exact hS.2.1 q h1 h2, fun q hq => by
      rcases List.mem_append.mp hq with h | h
      · exact hS.2.2 q h
      · exact hA _ (hL q h)⟩ ⟨hO', hO.2⟩ hl T' rfl X'
  exact ⟨t2, go t2 a1, b1⟩
theorem lr_cX (F : LF Y) {st : List Value} {i d' nL' n : Nat} {y : MethodName} {b : ByteArray} {ret' : Option FieldType} {As : List Value} {q : vw_C} {post1 : Option Value → Wd → Prop} (hd : decode code pc = .ok (.invokevirtual i, 3)) (L : Cv RL i y b nL' ret' n)
    (hc : Sp (GX (bx Y)) d' y b nL' ret' (.ref (ga (GX (bx Y)) 0) :: As) w.1 post1) (hq : vwCl[7]? = some q) (hqc : q.1 = y.cls) (hn : As.length = n) (hr : d' + 1 ≤ 10 ∧ 8 + (nL' + 11) + 40 * d' ≤ 400) (hst : st = As.reverse ++ .ref (ga (GX (bx Y)) 0) :: rest) (hcat : (rest.map fun v => v.category).sum ≤ 8)
    (kk : ∀ (v : Option Value) (w' : Wd), post1 v w' → LW Y (pc + 3) lv (v.toList ++ rest) (w', w.2)) : LW Y pc lv st w := by
  intro H locs ls hP hD hS hO hl
  refine lr_goX F hP hD hS hO hl (va_runV (As := As) ⟨F.1, F.2.1, F.2.2.1, F.2.2.2.1, F.2.2.2.2.1⟩ (hc hO.1 H.size) ⟨lcb_of F L.1 L.2.1 hr, F.2.2.2.2.1 _ L.2.2.1, F.2.2.2.2.1 _ L.2.2.2⟩ ⟨sp_blind, ?_, lp_pre (G := (GX (bx Y))) F rfl rfl hP.1 hD.1⟩ rfl hn (by rw [← F.2.2.1]; exact hl.1) hst (lv_room hcat) hd ⟨Nat.le_of_ble_eq_true rfl, Nat.le_of_ble_eq_true rfl⟩) kk
  rw [← hqc]
  exact va_recv F.2.2.2.2.2.1 hP.1 hq (by rw [cels_get (G := (GX (bx Y))) (k := 0) (Nat.le_of_ble_eq_true rfl), cel_O (G := (GX (bx Y))) (w := w.1) (k := 0) (ci := 7) (fs := [4, 8, 11, 14, 17, 20, 21, 23, 0]) rfl])
theorem lr_goM {st : List Value} {post1 : Option Value → Wd → Prop} {a : Array Value} {H : Heap} {locs : List Loc} {ls : Array Slot} (F : LF Y) (hP : LPs Y w H) (hD : LD2 Y w) (hS : va_S (yA Y) (ys Y).heap H locs) (hO : LO Y w) (hl : lh ls (yc Y).maxLocals lv)
    (hr : va_Run (yp Y) (yl Y) (ye Y) room_1 (ys Y) (ym Y) #[Value.ref (ya Y)] (yb Y) (yt Y) (yc Y) H locs 600000 7302250 0 0 (F0 (ym Y) pc ls st) rest (Qg (GM (bm Y)) post1 (va_A (cels (GM (bm Y)) w.2) H.size) a) (va_A (cels (GM (bm Y)) w.2) H.size))
    (kk : ∀ (v : Option Value) (w' : Wd), post1 v w' → LW Y (pc + 3) lv (v.toList ++ rest) (w.1, w')) :
    W (yp Y) (yl Y) (ye Y) room_1 (ys Y) (ym Y) #[Value.ref (ya Y)] (yb Y) (yt Y) (yc Y) H locs 600000 7302250 (lw_Z (yb Y) #[Value.ref (ya Y)] (ys Y)) (F0 (ym Y) pc ls st) := by
  have hA : ∀ q, va_A (cels (GM (bm Y)) w.2) H.size q → yA Y q := fun q h => by
    rcases h with ⟨k, e, h⟩ | h
    · exact hD.2.2 k (q, e) h
    · exact Nat.le_trans hS.1 h
  intro T hT XX
  obtain ⟨v, st₀, t, T', L, h0, X', hL, e1, e2, ⟨⟨v', w', hv, hp, hO', hP', hK', hD'⟩, hz, hk⟩, go⟩ := hr T hT XX
  cases hv
  rw [h0] at hz hk
  have hPo : va_P (gD (GX (bx Y))) vwCl (cels (GX (bx Y)) w.1) t.heap := lp_keep (G := (GM (bm Y))) (w := w.2) hP.1 (fun q h1 h2 => hk q h1 h2) (fun k j hk hj e => F.2.2.2.2.2.2.2.2.2.2.2.1 j k hj hk e.symm)
  obtain ⟨t2, a1, b1⟩ := kk v w' hp T'.heap (locs ++ L) ls (by rw [e1]; exact ⟨hPo, hP'⟩) ⟨hD.1, hD'.weaken (fun _ q _ h => hA q.1 h)⟩
    ⟨Nat.le_trans hS.1 (by rw [e1]; exact hz), fun q h1 h2 => by rw [e1, hk q (Nat.lt_of_lt_of_le h1 hS.1) (fun z => h2 (hA q z))]; exact hS.2.1 q h1 h2, fun q hq => by
      rcases List.mem_append.mp hq with h | h
      · exact hS.2.2 q h
      · exact hA _ (hL q h)⟩ ⟨hO.1, hO'⟩ hl T' rfl X'
  exact ⟨t2, go t2 a1, b1⟩
theorem lr_cM (F : LF Y) {st : List Value} {i d' nL' n : Nat} {y : MethodName} {b : ByteArray} {ret' : Option FieldType} {As : List Value} {q : vw_C} {post1 : Option Value → Wd → Prop} (hd : decode code pc = .ok (.invokevirtual i, 3)) (L : Cv RL i y b nL' ret' n)
    (hc : Sp (GM (bm Y)) d' y b nL' ret' (.ref (ga (GM (bm Y)) 0) :: As) w.2 post1) (hq : vwCl[8]? = some q) (hqc : q.1 = y.cls) (hn : As.length = n) (hr : d' + 1 ≤ 10 ∧ 8 + (nL' + 11) + 40 * d' ≤ 400) (hst : st = As.reverse ++ .ref (ga (GM (bm Y)) 0) :: rest) (hcat : (rest.map fun v => v.category).sum ≤ 8)
    (kk : ∀ (v : Option Value) (w' : Wd), post1 v w' → LW Y (pc + 3) lv (v.toList ++ rest) (w.1, w')) : LW Y pc lv st w := by
  intro H locs ls hP hD hS hO hl
  refine lr_goM F hP hD hS hO hl (va_runV (As := As) ⟨F.1, F.2.1, F.2.2.1, F.2.2.2.1, F.2.2.2.2.1⟩ (hc hO.2 H.size) ⟨lcb_of F L.1 L.2.1 hr, F.2.2.2.2.1 _ L.2.2.1, F.2.2.2.2.1 _ L.2.2.2⟩ ⟨sp_blind, ?_, lp_pre (G := (GM (bm Y))) F rfl rfl hP.2 hD.2⟩ rfl hn (by rw [← F.2.2.1]; exact hl.1) hst (lv_room hcat) hd ⟨Nat.le_of_ble_eq_true rfl, Nat.le_of_ble_eq_true rfl⟩) kk
  rw [← hqc]
  exact va_recv F.2.2.2.2.2.1 hP.2 hq (by rw [cels_get (G := (GM (bm Y))) (k := 0) (Nat.le_of_ble_eq_true rfl), cel_O (G := (GM (bm Y))) (w := w.2) (k := 0) (ci := 8) (fs := [0, 4, 5, 6, 7, 8, 9, 10, 0, 11, 12, 0, 13, 14, 15, 16, 0, 17, 0, 0, 2, 18, 19, 20, 21, 0, 22, 23, 24, 25, 2, 26, 27, 1]) rfl])
end LR
