/-! whole numbers for machine ints -/
abbrev inR (a : Int) : Prop := -2147483648 ≤ a ∧ a ≤ 2147483647
abbrev inL (a : Int) : Prop := -9223372036854775808 ≤ a ∧ a ≤ 9223372036854775807
abbrev iv (a : Int) : Value := .int (Int32.ofInt a)
abbrev lq (a : Int) : Value := .long (Int64.ofInt a)
theorem iv_min : Int32.minValue.toInt = -2147483648 := by decide
theorem iv_max : Int32.maxValue.toInt = 2147483647 := by decide
theorem iv_toInt {a : Int} (h : inR a) : (Int32.ofInt a).toInt = a := Int32.toInt_ofInt_of_le (by omega) (by omega)
theorem iv_le {a b : Int} (ha : inR a) (hb : inR b) : Int32.ofInt a ≤ Int32.ofInt b ↔ a ≤ b := Int32.ofInt_le_iff_le (by rw [iv_min]; exact ha.1) (by rw [iv_max]; exact ha.2) (by rw [iv_min]; exact hb.1) (by rw [iv_max]; exact hb.2)
theorem iv_lt {a b : Int} (ha : inR a) (hb : inR b) : Int32.ofInt a < Int32.ofInt b ↔ a < b := Int32.ofInt_lt_iff_lt (by rw [iv_min]; exact ha.1) (by rw [iv_max]; exact ha.2) (by rw [iv_min]; exact hb.1) (by rw [iv_max]; exact hb.2)
theorem iv_eq {a b : Int} (ha : inR a) (hb : inR b) : Int32.ofInt a = Int32.ofInt b ↔ a = b := ⟨fun h => by have := congrArg Int32.toInt h; rwa [iv_toInt ha, iv_toInt hb] at this, fun h => by rw [h]⟩
theorem iv_zero : (0 : Int32) = Int32.ofInt 0 := by decide
theorem iv_in {i : Int} {n : Nat} (h : inR i) (h0 : 0 ≤ i) (h1 : i < n) : vp_in (Int32.ofInt i) n := vp_in_iff.mpr (by rw [iv_toInt h]; exact ⟨h0, h1⟩)
theorem iv_clamp {i : Int} (h : inR i) : (Int32.ofInt i).toNatClampNeg = i.toNat := Int32.toNatClampNeg_ofInt_of_le (by omega) (by omega)
/-! the tables' words that a contract carries -/
def tb0 : List Cond := lw_tbl.filter goodWord
theorem tb_in {w : Cond} (i : Nat) (h : lw_tbl[i]? = some w) (hg : goodWord w = true) : w ∈ tb0 := List.mem_filter.mpr ⟨List.mem_of_getElem? h, hg⟩
theorem tb_good (y : MethodName) (cc : ByteArray) (n : Nat) (ret : Option FieldType) {Ts : List Cond} (hT : ∀ w ∈ tb0, w ∈ Ts) (hc : Cond.code y cc n ret ∈ tb0) : GoodIn Ts (Cond.code y cc n ret :: tb0) := by
  intro w hw
  rcases List.mem_cons.mp hw with h | h
  · subst h
    exact ⟨hT _ hc, good_of_word (List.mem_filter.mp hc).2⟩
  · exact ⟨hT _ h, good_of_word (List.mem_filter.mp h).2⟩
def nst : List (String × Nat × MethodName × String) := lw_tbl.filterMap fun c => match c with
  | .methodLinkNest a i x h => some (a, i, x, h)
  | _ => none
def NWs (U : State) : Prop := ∀ q ∈ nst, va_Nw (.methodLinkNest q.1 q.2.1 q.2.2.1 q.2.2.2) U
theorem NWs.warm {s U : State} (hW : s.WarmedH U.vm) (h : NWs s) : NWs U := fun q hq => va_Nw.warmM hW (h q hq)
theorem NWs.same {u U : State} (hv : u.vm = U.vm) (h : NWs u) : NWs U := fun q hq => va_Nw.same rfl hv (h q hq)
/-! a side's world: cell and place to a whole number; its shape: arrays (kind of element, length) and objects (class, a code for each field: 0 int, 1 long, 2 boolean, k + 3 a reference to cell k) -/
abbrev Wd : Type := Nat → Int → Int
abbrev Shp : Type := (Nat × Nat) ⊕ (Nat × List Nat)
abbrev Gc : Type := Launch × (Nat → Nat) × va_G × (Nat → ClassId) × (Nat → Shp) × Nat
abbrev gl (G : Gc) : Launch := G.1
abbrev ga (G : Gc) : Nat → Nat := G.2.1
abbrev gD (G : Gc) : va_G := G.2.2.1
abbrev gt (G : Gc) : Nat → ClassId := G.2.2.2.1
abbrev gS (G : Gc) : Nat → Shp := G.2.2.2.2.1
abbrev gn (G : Gc) : Nat := G.2.2.2.2.2
abbrev gT (G : Gc) : List (ClassId × FieldType) := [(gt G 0, .int), (gt G 1, .byte), (gt G 2, .boolean)]
def fv (G : Gc) (w : Wd) (k : Nat) (j : Nat) (c : Nat) : Value := match c with
  | 0 => iv (w k j)
  | 1 => lq (w k j)
  | 2 => iv (w k j)
  | t + 3 => .ref (ga G t)
def fvs (G : Gc) (w : Wd) (k : Nat) : Nat → List Nat → List Value
  | _, [] => []
  | j, c :: t => fv G w k j c :: fvs G w k (j + 1) t
theorem fvs_get (G : Gc) (w : Wd) (k : Nat) : ∀ (l : List Nat) (j i : Nat), (fvs G w k j l)[i]? = (l[i]?).map (fun c => fv G w k (j + i) c)
  | [], _, i => by simp [fvs]
  | c :: t, j, 0 => by simp [fvs]
  | c :: t, j, i + 1 => by simp only [fvs, List.getElem?_cons_succ, fvs_get G w k t (j + 1) i]; rw [show j + 1 + i = j + (i + 1) by omega]
theorem fvs_len (G : Gc) (w : Wd) (k : Nat) : ∀ (l : List Nat) (j : Nat), (fvs G w k j l).length = l.length
  | [], _ => rfl
  | c :: t, j => by simp only [fvs, List.length_cons, fvs_len G w k t (j + 1)]
def cel (G : Gc) (w : Wd) (k : Nat) : va_E := match gS G k with
  | .inl q => .inl (gt G q.1, (q.2, .inl (fun j => Int32.ofInt (w k (j : Int)))))
  | .inr q => .inr (q.1, fvs G w k 0 q.2)
def cels (G : Gc) (w : Wd) : va_W := (List.range (gn G)).map fun k => (ga G k, cel G w k)
theorem cels_get {G : Gc} {w : Wd} {k : Nat} (h : k < gn G) : (cels G w)[k]? = some (ga G k, cel G w k) := by simp [cels, h]
theorem cel_A {G : Gc} {w : Wd} {k t n : Nat} (h : gS G k = .inl (t, n)) : cel G w k = .inl (gt G t, (n, .inl (fun j => Int32.ofInt (w k (j : Int))))) := by simp only [cel, h]
theorem cel_O {G : Gc} {w : Wd} {k ci : Nat} {fs : List Nat} (h : gS G k = .inr (ci, fs)) : cel G w k = .inr (ci, fvs G w k 0 fs) := by simp only [cel, h]
def up (w : Wd) (k : Nat) (i v : Int) : Wd := fun k' i' => if k' = k ∧ i' = i then v else w k' i'
theorem up_self (w : Wd) (k : Nat) (i v : Int) : up w k i v k i = v := by simp [up]
theorem up_cell {w : Wd} {k k' : Nat} {i v : Int} (h : k' ≠ k) : up w k i v k' = w k' := by funext j; simp [up, h]
theorem up_ne {w : Wd} {k k' : Nat} {i j v : Int} (h : ¬ (k' = k ∧ j = i)) : up w k i v k' j = w k' j := by simp [up, h]
theorem cel_ext {G : Gc} {w w' : Wd} {k : Nat} (h : ∀ i, w' k i = w k i) : cel G w' k = cel G w k := by
  have e : w' k = w k := funext h
  unfold cel
  cases gS G k with
  | inl q => simp only [e]
  | inr q =>
    have : ∀ (l : List Nat) (j : Nat), fvs G w' k j l = fvs G w k j l := by
      intro l
      induction l with
      | nil => intro j; rfl
      | cons c t ih => intro j; simp only [fvs, ih]; congr 1; unfold fv; simp only [e]
    simp only [this]
theorem cels_upd {G : Gc} {w w' : Wd} {k : Nat} {e : va_E} (hw : ∀ k', k' ≠ k → w' k' = w k') (he : cel G w' k = e) : (cels G w).set k (ga G k, e) = cels G w' := by
  apply List.ext_getElem?
  intro j
  by_cases hj : j < gn G
  · by_cases hk : j = k
    · subst hk
      rw [List.getElem?_set_self (by simp [cels]; exact hj), cels_get hj, he]
    · rw [List.getElem?_set_ne (Ne.symm hk), cels_get hj, cels_get hj, cel_ext (fun i => congrFun (hw j hk) i)]
  · rw [List.getElem?_eq_none (by simp [cels]; omega), List.getElem?_eq_none (by simp [cels]; omega)]
/-! ranges: what a cell holds is in the range of its kind -/
def rT (t : Nat) (a : Int) : Prop := match t with
  | 0 => inR a
  | 1 => -128 ≤ a ∧ a ≤ 127
  | _ => 0 ≤ a ∧ a ≤ 1
def rF (c : Nat) (a : Int) : Prop := match c with
  | 0 => inR a
  | 1 => inL a
  | 2 => 0 ≤ a ∧ a ≤ 1
  | _ => True
def okW (G : Gc) (w : Wd) : Prop := (∀ k t n, gS G k = .inl (t, n) → ∀ i : Int, 0 ≤ i → i < n → rT t (w k i)) ∧ ∀ k ci fs, gS G k = .inr (ci, fs) → ∀ j c, fs[j]? = some c → rF c (w k (j : Nat))
theorem okW.upA {G : Gc} {w : Wd} (h : okW G w) {k t n : Nat} (hs : gS G k = .inl (t, n)) {i v : Int} (hv : rT t v) : okW G (up w k i v) := by
  refine ⟨fun k' t' n' hs' j h0 h1 => ?_, fun k' ci fs hs' j c hc => ?_⟩
  · by_cases e : k' = k ∧ j = i
    · obtain ⟨rfl, rfl⟩ := e
      rw [hs] at hs'
      cases hs'
      rw [up_self]; exact hv
    · rw [up_ne e]; exact h.1 k' t' n' hs' j h0 h1
  · by_cases e : k' = k
    · subst e
      rw [hs] at hs'
      cases hs'
    · rw [up_ne (fun q => e q.1)]; exact h.2 k' ci fs hs' j c hc
theorem okW.upF {G : Gc} {w : Wd} (h : okW G w) {k ci j c : Nat} {fs : List Nat} (hs : gS G k = .inr (ci, fs)) (hc : fs[j]? = some c) {v : Int} (hv : rF c v) : okW G (up w k (j : Nat) v) := by
  refine ⟨fun k' t' n' hs' i h0 h1 => ?_, fun k' ci' fs' hs' j' c' hc' => ?_⟩
  · by_cases e : k' = k
    · subst e
      rw [hs] at hs'
      cases hs'
    · rw [up_ne (fun q => e q.1)]; exact h.1 k' t' n' hs' i h0 h1
  · by_cases e : k' = k ∧ ((j' : Nat) : Int) = (j : Nat)
    · obtain ⟨rfl, e2⟩ := e
      have : j' = j := by omega
      subst this
      rw [hs] at hs'
      cases hs'
      rw [hc] at hc'
      cases hc'
      rw [up_self]; exact hv
    · rw [up_ne e]; exact h.2 k' ci' fs' hs' j' c' hc'
/-! locals, by place -/
def lg : List (Option Value) → Nat → Option Value
  | [], _ => none
  | x :: _, 0 => x
  | _ :: t, i + 1 => lg t i
def lst : List (Option Value) → Nat → Option Value → List (Option Value)
  | [], 0, v => [v]
  | [], i + 1, v => none :: lst [] i v
  | _ :: t, 0, v => v :: t
  | x :: t, i + 1, v => x :: lst t i v
theorem lg_nil (i : Nat) : lg [] i = none := by cases i <;> rfl
theorem lg_lst : ∀ (i : Nat) (l : List (Option Value)) (v : Option Value) (j : Nat), lg (lst l i v) j = if j = i then v else lg l j
  | 0, [], v, 0 => rfl
  | 0, [], v, j + 1 => by simp [lst, lg]
  | 0, x :: t, v, 0 => rfl
  | 0, x :: t, v, j + 1 => by simp [lst, lg]
  | i + 1, [], v, 0 => by simp [lst, lg]
  | i + 1, [], v, j + 1 => by simp [lst, lg, lg_lst i [] v j, lg_nil]
  | i + 1, x :: t, v, 0 => by simp [lst, lg]
  | i + 1, x :: t, v, j + 1 => by simp [lst, lg, lg_lst i t v j]
def isL (v : Option Value) : Bool := match v with
  | some (.long _) => true
  | some (.double _) => true
  | _ => false
def okst (l : List (Option Value)) (i : Nat) : Bool := match i with
  | 0 => true
  | j + 1 => !(isL (lg l j))
theorem isL_cat {v : Value} (h : v.category = 2) : isL (some v) = true := by cases v <;> simp [Value.category, isL] at h ⊢
def lh (ls : Array Slot) (nL : Nat) (l : List (Option Value)) : Prop := ls.size = nL ∧ lv_wf ls ∧ ∀ i v, lg l i = some v → ls[i]? = some (.val v)
def asc : Nat → List (Option Value) → List (Nat × Value)
  | _, [] => []
  | k, none :: t => asc (k + 1) t
  | k, some v :: t => (k, v) :: asc (k + 1) t
theorem asc_mem : ∀ (l : List (Option Value)) (k i : Nat) (v : Value), (i, v) ∈ asc k l ↔ ∃ j, i = k + j ∧ lg l j = some v
  | [], k, i, v => by simp [asc, lg_nil]
  | none :: t, k, i, v => by
    rw [show asc k (none :: t) = asc (k + 1) t from rfl, asc_mem t (k + 1) i v]
    constructor
    · rintro ⟨j, h1, h2⟩; exact ⟨j + 1, by omega, h2⟩
    · rintro ⟨j, h1, h2⟩
      cases j with
      | zero => simp [lg] at h2
      | succ j => exact ⟨j, by omega, h2⟩
  | some u :: t, k, i, v => by
    rw [show asc k (some u :: t) = (k, u) :: asc (k + 1) t from rfl, List.mem_cons, asc_mem t (k + 1) i v]
    constructor
    · rintro (h | ⟨j, h1, h2⟩)
      · cases h; exact ⟨0, by omega, rfl⟩
      · exact ⟨j + 1, by omega, h2⟩
    · rintro ⟨j, h1, h2⟩
      cases j with
      | zero => simp only [lg, Option.some.injEq] at h2; left; rw [h1, h2]; rfl
      | succ j => right; exact ⟨j, by omega, h2⟩
theorem lh.has {ls : Array Slot} {nL : Nat} {l : List (Option Value)} (h : lh ls nL l) : lv_has ls nL (asc 0 l) := ⟨h.1, h.2.1, fun q hq => by
  obtain ⟨i, v⟩ := q
  obtain ⟨j, h1, h2⟩ := (asc_mem l 0 i v).mp hq
  have : i = j := by omega
  subst this
  exact h.2.2 _ _ h2⟩
theorem lh.at {ls : Array Slot} {nL : Nat} {l : List (Option Value)} (h : lh ls nL l) {i : Nat} {v : Value} (e : lg l i = some v) : ls[i]? = some (.val v) := h.2.2 i v e
theorem lh_st1 {ls' : Array Slot} {nL i : Nat} {v : Value} {l : List (Option Value)} (ho : okst l i = true) (h : lv_has ls' nL ((i, v) :: (asc 0 l).filter (fun q => !(q.1 == i) && !(q.1 + 1 == i && q.2.category == 2)))) : lh ls' nL (lst l i (some v)) := by
  refine ⟨h.1, h.2.1, fun j u hj => ?_⟩
  rw [lg_lst] at hj
  by_cases e : j = i
  · rw [if_pos e] at hj
    cases hj
    subst e
    exact h.2.2 (j, v) List.mem_cons_self
  · rw [if_neg e] at hj
    refine h.2.2 (j, u) (List.mem_cons_of_mem _ (List.mem_filter.mpr ⟨(asc_mem l 0 j u).mpr ⟨j, by omega, hj⟩, ?_⟩))
    have h1 : (j == i) = false := by simpa using e
    by_cases h2 : j + 1 = i
    · subst h2
      have h3 : ¬ u.category = 2 := by
        intro hc
        simp only [okst, hj, isL_cat hc] at ho
        cases ho
      simp [e, h3]
    · simp [e, h2]
theorem lh_st2 {ls' : Array Slot} {nL i : Nat} {v : Value} {l : List (Option Value)} (ho : okst l i = true) (h : lv_has ls' nL ((i, v) :: (asc 0 l).filter (fun q => !(q.1 == i) && (!(q.1 == i + 1) && !(q.1 + 1 == i && q.2.category == 2))))) : lh ls' nL (lst (lst l (i + 1) none) i (some v)) := by
  refine ⟨h.1, h.2.1, fun j u hj => ?_⟩
  rw [lg_lst] at hj
  by_cases e : j = i
  · rw [if_pos e] at hj
    cases hj
    subst e
    exact h.2.2 (j, v) List.mem_cons_self
  · rw [if_neg e, lg_lst] at hj
    by_cases e2 : j = i + 1
    · rw [if_pos e2] at hj; cases hj
    · rw [if_neg e2] at hj
      refine h.2.2 (j, u) (List.mem_cons_of_mem _ (List.mem_filter.mpr ⟨(asc_mem l 0 j u).mpr ⟨j, by omega, hj⟩, ?_⟩))
      by_cases h2 : j + 1 = i
      · subst h2
        have h3 : ¬ u.category = 2 := by
          intro hc
          simp only [okst, hj, isL_cat hc] at ho
          cases ho
        simp [e, e2, h3]
      · simp [e, e2, h2]
def ent : List Value → List (Option Value)
  | [] => []
  | v :: t => if v.category = 2 then some v :: none :: ent t else some v :: ent t
theorem ent_args : ∀ (vs : List Value) (k i : Nat) (v : Value), lg (ent vs) i = some v → (k + i, v) ∈ lv_args k vs
  | [], k, i, v => by simp [ent, lg_nil]
  | u :: t, k, i, v => by
    intro h
    by_cases hc : u.category = 2
    · rw [ent, if_pos hc] at h
      rw [lv_args, if_pos hc]
      match i, h with
      | 0, h => simp only [lg, Option.some.injEq] at h; subst h; exact List.mem_cons_self
      | 1, h => simp [lg] at h
      | i + 2, h => exact List.mem_cons_of_mem _ (by have := ent_args t (k + 2) i v h; rwa [show k + 2 + i = k + (i + 2) by omega] at this)
    · rw [ent, if_neg hc] at h
      rw [lv_args, if_neg hc]
      match i, h with
      | 0, h => simp only [lg, Option.some.injEq] at h; subst h; exact List.mem_cons_self
      | i + 1, h => exact List.mem_cons_of_mem _ (by have := ent_args t (k + 1) i v h; rwa [show k + 1 + i = k + (i + 1) by omega] at this)
theorem lh_ent {ls : Array Slot} {nL : Nat} {vs : List Value} (h : lv_has ls nL (lv_args 0 vs)) : lh ls nL (ent vs) := ⟨h.1, h.2.1, fun i v e => h.2.2 (i, v) (by have := ent_args vs 0 i v e; rwa [Nat.zero_add] at this)⟩
/-! the judgement -/
abbrev Xc : Type := Program × Env × Room × State × MethodId × Array Value × List Frame × Method × Code × (Addr → Prop)
abbrev xp (X : Xc) : Program := X.1
abbrev xe (X : Xc) : Env := X.2.1
abbrev xR (X : Xc) : Room := X.2.2.1
abbrev xs (X : Xc) : State := X.2.2.2.1
abbrev xm (X : Xc) : MethodId := X.2.2.2.2.1
abbrev xa (X : Xc) : Array Value := X.2.2.2.2.2.1
abbrev xb (X : Xc) : List Frame := X.2.2.2.2.2.2.1
abbrev xt (X : Xc) : Method := X.2.2.2.2.2.2.2.1
abbrev xc (X : Xc) : Code := X.2.2.2.2.2.2.2.2.1
abbrev xA (X : Xc) : Addr → Prop := X.2.2.2.2.2.2.2.2.2
/-- what a method leaves: an answer and a world of which post holds; nothing else has changed -/
def Qg (G : Gc) (post : Option Value → Wd → Prop) (A : Addr → Prop) : Array Value → State → Outcome → State → Prop := fun _ st oc t =>
  (∃ (v : Option Value) (w : Wd), oc = .returned v ∧ post v w ∧ okW G w ∧ va_P (gD G) vwCl (cels G w) t.heap ∧ va_K (gD G) vwCl (gT G) t ∧ va_D A (cels G w)) ∧ va_F A st t
def Jw (G : Gc) (X : Xc) (post : Option Value → Wd → Prop) (pc : Nat) (lv : List (Option Value)) (st : List Value) (w : Wd) : Prop :=
  ∀ (H : Heap) (locs : List Loc) (ls : Array Slot), va_P (gD G) vwCl (cels G w) H → va_D (xA X) (cels G w) → va_S (xA X) (xs X).heap H locs → okW G w → lh ls (xc X).maxLocals lv →
    W (xp X) (gl G) (xe X) (xR X) (xs X) (xm X) (xa X) (xb X) (xt X) (xc X) H locs 0 0 (MQ (xb X) (Qg G post (xA X)) (xa X) (xs X) 0 0 (xA X)) (F0 (xm X) pc ls st)
/-- what holds all along a method's walk: own: its class, cc: its code, nL: its locals, d: its depth, ret: its result -/
def Fx (G : Gc) (X : Xc) (own : String) (cc : ByteArray) (nL d : Nat) (ret : Option FieldType) : Prop :=
  (xp X).tables.exec = Jvm.exec ∧ (xc X).code = cc ∧ (xc X).maxLocals = nL ∧ (xs X).vm.findClass own = some (xm X).cls ∧ (∀ w ∈ tb0, w.before (xa X) (xs X) = true) ∧ va_K (gD G) vwCl (gT G) (xs X) ∧ NWs (xs X) ∧
  (xt X).sig.returnType = ret ∧ (xt X).locks = false ∧ (xR X).frames = d ∧ (xR X).locals = 40 * d ∧ (xR X).cells = 0 ∧ (xR X).slots = 0 ∧ ∀ q, (xs X).heap.size ≤ q → xA X q
/-- a method's contract, for the answer and the world that it comes to -/
def Sp (G : Gc) (d : Nat) (y : MethodName) (cc : ByteArray) (nL : Nat) (ret : Option FieldType) (args : List Value) (w : Wd) (post : Option Value → Wd → Prop) : Prop := okW G w → ∀ sz : Nat,
  Met (gl G) y (Cond.code y cc nL ret :: tb0) { frames := d, cells := 0, slots := 0, locals := 40 * d } (va_Pc args (fun U => U.heap.size = sz ∧ va_P (gD G) vwCl (cels G w) U.heap ∧ va_K (gD G) vwCl (gT G) U ∧ NWs U ∧ va_D (fun _ => True) (cels G w)))
    (Qg G post (va_A (cels G w) sz)) 0 0 (va_A (cels G w) sz)
theorem Sp.of {G : Gc} {d : Nat} {y : MethodName} {cc : ByteArray} {nL : Nat} {ret : Option FieldType} {args : List Value} {w : Wd} {post : Option Value → Wd → Prop} (hy : plainName y.cls = true) (hn : (lg_sl args).length ≤ nL)
    (k : ∀ X : Xc, Fx G X y.cls cc nL d ret → Jw G X post 0 (ent args) [] w) : Sp G d y cc nL ret args w post := by
  intro hO sz
  refine Met.ofW (cc := cc) (maxL := nL) (ret := ret) hy rfl ?_
  intro p e s m a below meth c s₁ B hml hv
  obtain ⟨rfl, hsz, hP, hK, hN, hD0⟩ := hv
  have hts := atoms_spec (ws := Cond.code y cc nL ret :: tb0) B.pre
  have hown : s.vm.findClass y.cls = some m.cls := findClass_of_methodNamed B.named
  subst hsz
  have hD := hD0.self (sz := s.heap.size)
  have hS : va_S (va_A (cels G w) s.heap.size) s.heap s.heap [] := va_S.rf
  have hl := lv_entry args (n := nL) hn
  rw [lg_entry_eq]
  exact k (p, e, { frames := d, cells := 0, slots := 0, locals := 40 * d }, s, m, args.toArray, below, meth, c, va_A (cels G w) s.heap.size)
    ⟨B.exec, B.bytes, hml, hown, fun q hq => hts q (List.mem_cons_of_mem _ hq), hK, hN, B.returns, B.notSynchronized, rfl, rfl, rfl, rfl, fun q h => Or.inr h⟩ s.heap [] _ hP hD hS hO (lh_ent (by rw [show (xc (p, e, ({ frames := d, cells := 0, slots := 0, locals := 40 * d } : Room), s, m, args.toArray, below, meth, c, va_A (cels G w) s.heap.size)).maxLocals = nL from hml]; exact hl))
theorem Sp.mono {G : Gc} {d : Nat} {y : MethodName} {cc : ByteArray} {nL : Nat} {ret : Option FieldType} {args : List Value} {w : Wd} {post post' : Option Value → Wd → Prop} (h : Sp G d y cc nL ret args w post) (hp : ∀ v u, post v u → post' v u) : Sp G d y cc nL ret args w post' := by
  intro hO sz p e ha hc hk s m args below hf happ hP hK
  obtain ⟨t, o, h1, h2, h3, h4, h5⟩ := h hO sz p e ha hc hk s m args below hf happ hP hK
  obtain ⟨⟨v, u, a1, a2, a3⟩, a4⟩ := h4
  exact ⟨t, o, h1, h2, h3, ⟨⟨v, u, a1, hp v u a2, a3⟩, a4⟩, h5⟩
