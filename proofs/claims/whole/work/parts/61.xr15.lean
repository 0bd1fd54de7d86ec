theorem ones_s : ∀ q : Int, 0 ≤ q ∧ q ≤ 255 → q = 0 ∨ (pcn (anb q (q - 1)) + 1 = pcn q ∧ 0 ≤ anb q (q - 1) ∧ anb q (q - 1) ≤ q - 1) := by exact all8 (P := fun q => q = 0 ∨ (pcn (anb q (q - 1)) + 1 = pcn q ∧ 0 ≤ anb q (q - 1) ∧ anb q (q - 1) ≤ q - 1)) (by decide +kernel)

set_option maxRecDepth 100000 in
set_option maxHeartbeats 4000000 in
theorem c_X8_ones {B : Bs} {m : Wd} {x : Int} (hx : 0 ≤ x ∧ x ≤ 255) : Sp (GM B) 0 yX8_ones cX8_ones 3 (Option.some FieldType.int) [iv (x)] m (pI m (pcn x)) := by
  refine Sp.of (by decide) (Nat.le_of_ble_eq_true rfl) (fun X F => ?_)
  show Jw (GM B) X _ 0 [some (iv (x))] [] m
  refine jr_iconst F dX8_ones_0 ?_
  refine jr_istore_n F dX8_ones_1 (Nat.le_of_ble_eq_true rfl) rfl ?_
  refine jr_iload_n F dX8_ones_2 rfl ?_
  refine jr_istore_n F dX8_ones_3 (Nat.le_of_ble_eq_true rfl) rfl ?_
  have L4 : ∀ (fuel : Nat) (l : Int) (z : Int), (l).toNat < fuel → (0 ≤ l ∧ l ≤ 255) → (z + pcn l = pcn x) → (0 ≤ z ∧ z ≤ 1000 - l) → Jw (GM B) X (pI m (pcn x)) 4 [some (iv x), some (iv z), some (iv l)] [] m := by
    intro fuel
    induction fuel with
    | zero => intro l z hfuel; exact absurd hfuel (Nat.not_lt_zero _)
    | succ fuel ih4 =>
        intro l z hfuel l0 hz zR
        refine jr_iload_n F dX8_ones_4 rfl ?_
        refine jr_if_eq (tgt := 20) F dX8_ones_5 (by decide) (fun c5 => ?_) (fun c5 => ?_) (by omega)
        · skip
          refine jr_iload_n F dX8_ones_20 rfl ?_
          exact jr_iret F dX8_ones_21 (pI_of (by have e0 : pcn 0 = 0 := (by decide); rw [show l = 0 by omega, e0] at hz; omega) rfl)
        · skip
          have os := (ones_s l l0).resolve_left c5
          refine jr_iinc F dX8_ones_8 rfl (Nat.le_of_ble_eq_true rfl) rfl ?_
          refine jr_iload_n F dX8_ones_11 rfl ?_
          refine jr_iload_n F dX8_ones_12 rfl ?_
          refine jr_iconst F dX8_ones_13 ?_
          refine jr_isub F dX8_ones_14 ?_
          refine jr_iand F dX8_ones_15 ?_
          refine jr_top (z := (anb l (l - 1))) F (b_anb (by omega) (by omega)) ?_
          refine jr_istore_n F dX8_ones_16 (Nat.le_of_ble_eq_true rfl) rfl ?_
          refine jr_goto (tgt := 4) F dX8_ones_17 (by decide) ?_
          exact jr_sub (ih4 (anb l (l - 1)) _ (by omega) (by omega) (by omega) (by omega)) ⟨rfl, rfl, rfl, trivial⟩
  exact jr_sub (L4 _ x 0 (Nat.lt_succ_self _) (by omega) (by omega) (by omega)) ⟨rfl, rfl, rfl, trivial⟩

/-- the best doubt so far, and its rivals -/
def BD (w : Wd) (s e b d bs rv : Int) : Prop := (bs = -1 ∧ rv = 0 ∧ ∀ z : Int, cnq (dbP w s e b z) d.toNat = 0) ∨ ((0 ≤ bs ∧ bs < d) ∧ bs = frq (dbP w s e b (pcn bs)) d.toNat ∧ rv = cnq (dbP w s e b (pcn bs)) d.toNat - 1 ∧ 0 < cnq (dbP w s e b (pcn bs)) d.toNat ∧ ∀ z : Int, z < pcn bs → cnq (dbP w s e b z) d.toNat = 0)
theorem BD_0 (w : Wd) (s e b : Int) : BD w s e b 0 (-1) 0 := Or.inl ⟨rfl, rfl, fun _ => rfl⟩
theorem BD_n {w : Wd} {s e b d bs rv : Int} (d0 : 0 ≤ d) (h : BD w s e b d bs rv) (hn : ∀ z : Int, (bs = -1 ∨ z ≤ pcn bs) → ¬ dbP w s e b z d) : BD w s e b (d + 1) bs rv := by
  rcases h with ⟨h1, h2, h3⟩ | ⟨h1, h2, h3, h4, h5⟩
  · exact Or.inl ⟨h1, h2, fun z => by rw [cnq_n d0 (hn z (Or.inl h1))]; exact h3 z⟩
  · have n1 := hn (pcn bs) (Or.inr (Int.le_refl _))
    refine Or.inr ⟨by omega, ?_, ?_, ?_, fun z hz => ?_⟩
    · rw [frq_n d0 (fun q => n1 q.1)]; exact h2
    · rw [cnq_n d0 n1]; exact h3
    · rw [cnq_n d0 n1]; exact h4
    · rw [cnq_n d0 (hn z (Or.inr (by omega)))]; exact h5 z hz
theorem BD_f {w : Wd} {s e b d bs rv : Int} (d0 : 0 ≤ d) (h : BD w s e b d bs rv) (h1 : dfb d b = 0) (h2 : hasL w s e (dfb b d) (-1)) (hf : bs = -1 ∨ pcn d < pcn bs) : BD w s e b (d + 1) d 0 := by
  have hp : dbP w s e b (pcn d) d := ⟨h1, rfl, h2⟩
  have c0 : cnq (dbP w s e b (pcn d)) d.toNat = 0 := by
    rcases h with h | h
    · exact h.2.2 _
    · exact h.2.2.2.2 _ (by omega)
  refine Or.inr ⟨by omega, (frq_y d0 hp c0).symm, by rw [cnq_y d0 hp, c0]; omega, by rw [cnq_y d0 hp, c0]; omega, fun z hz => ?_⟩
  rw [cnq_n d0 (fun q => by have := q.2.1; omega)]
  rcases h with h | h
  · exact h.2.2 _
  · exact h.2.2.2.2 _ (by omega)
theorem BD_e {w : Wd} {s e b d bs rv : Int} (d0 : 0 ≤ d) (h : BD w s e b d bs rv) (h1 : dfb d b = 0) (h2 : hasL w s e (dfb b d) (-1)) (hf : ¬ bs = -1) (he : pcn d = pcn bs) : BD w s e b (d + 1) bs (rv + 1) := by
  have h := h.resolve_left (fun q => hf q.1)
  have hp : dbP w s e b (pcn bs) d := ⟨h1, he, h2⟩
  refine Or.inr ⟨by omega, ?_, ?_, ?_, fun z hz => ?_⟩
  · rw [frq_n d0 (fun q => by have := h.2.2.2.1; omega)]; exact h.2.1
  · rw [cnq_y d0 hp]; have := h.2.2.1; omega
  · rw [cnq_y d0 hp]; have := h.2.2.2.1; omega
  · rw [cnq_n d0 (fun q => by have := q.2.1; omega)]; exact h.2.2.2.2 z hz
theorem bcx_T {x T : Int} (h0 : 0 ≤ x) (hT : 0 ≤ T) (h : x < pw T) : ∀ n : Nat, bcx x n ≤ n ∧ bcx x n ≤ T
  | 0 => by unfold bcx; omega
  | n + 1 => by
    have ih := bcx_T h0 hT h n
    rw [bcx]
    by_cases q : (n : Int) < T
    · split <;> omega
    · have p : (2 : Nat) ^ T.toNat ≤ 2 ^ n := Nat.pow_le_pow_right (by omega) (by omega)
      have e : x.toNat.testBit n = false := Nat.testBit_lt_two_pow (by unfold pw at h; generalize (2 : Nat) ^ T.toNat = a at h p; omega)
      rw [e]
      simp
      omega
theorem dbs_y {w : Wd} {s e b what z : Int} (h : 0 < cnq (dbP w s e b z) (pw (w 5 3)).toNat) : ∀ (f : Nat) (y : Int), y ≤ z → z < y + f → (∀ x : Int, y ≤ x → x < z → cnq (dbP w s e b x) (pw (w 5 3)).toNat = 0) → dbs w s e b what f y = if what = 0 then frq (dbP w s e b z) (pw (w 5 3)).toNat else cnq (dbP w s e b z) (pw (w 5 3)).toNat - 1
  | 0, y, h1, h2, _ => by omega
  | f + 1, y, h1, h2, h3 => by
    rw [dbs]
    by_cases q : y = z
    · subst q; rw [if_pos h]
    · have c := h3 y (Int.le_refl _) (by omega)
      rw [if_neg (by omega)]
      exact dbs_y h f (y + 1) (by omega) (by omega) (fun x a c => h3 x (by omega) c)
theorem dbs_n {w : Wd} {s e b what : Int} (h : ∀ z : Int, cnq (dbP w s e b z) (pw (w 5 3)).toNat = 0) : ∀ (f : Nat) (y : Int), dbs w s e b what f y = -1
  | 0, _ => rfl
  | f + 1, y => by
    rw [dbs, if_neg (by have := h y; omega)]
    exact dbs_n h f (y + 1)
theorem BD_end {w : Wd} {s e b bs rv what : Int} (hT : 0 ≤ w 5 3 ∧ w 5 3 ≤ 8) (h : BD w s e b (pw (w 5 3)) bs rv) : dbdw w s e b what = if bs = -1 ∨ what = 0 then bs else rv := by
  unfold dbdw
  rcases h with ⟨h1, h2, h3⟩ | ⟨h1, h2, h3, h4, h5⟩
  · rw [dbs_n h3, if_pos (Or.inl h1)]; exact h1.symm
  · have p := bcx_T h1.1 hT.1 h1.2 8
    have p2 := bcx_R bs 8
    have pe : pcn bs = bcx bs 8 := rfl
    rw [dbs_y h4 _ 0 (by omega) (by omega) (fun x _ c => h5 x c)]
    by_cases q : what = 0
    · rw [if_pos q, if_pos (Or.inr q)]; exact h2.symm
    · rw [if_neg q, if_neg (by omega)]; exact h3.symm
/-! the class' world with one doubt more -/
theorem up0_sr (w : Wd) (i v : Int) : sr w (up w 0 i v) := fun k a _ _ => by rw [up_cell a]
theorem sr_IM {w u : Wd} (h : sr w u) (g : IM w) : IM u := by
  have c1 : u 1 = w 1 := h 1 (by decide) (by decide) (by decide)
  have c2 : u 2 = w 2 := h 2 (by decide) (by decide) (by decide)
  have c5 : u 5 = w 5 := h 5 (by decide) (by decide) (by decide)
  have c6 : u 6 = w 6 := h 6 (by decide) (by decide) (by decide)
  have c7 : u 7 = w 7 := h 7 (by decide) (by decide) (by decide)
  have c8 : u 8 = w 8 := h 8 (by decide) (by decide) (by decide)
  have c9 : u 9 = w 9 := h 9 (by decide) (by decide) (by decide)
  have c11 : u 11 = w 11 := h 11 (by decide) (by decide) (by decide)
  have c14 : u 14 = w 14 := h 14 (by decide) (by decide) (by decide)
  have fA : fa u = fa w := cell_fa c2
  have tA : tfa u = tfa w := cell_tfa c6
  have wA : wfa u = wfa w := cell_wfa c9
  have kA : ska u = ska w := by funext t; unfold ska; rw [tA]
  have mA : mra u = mra w := by funext t; unfold mra; rw [fA]
  obtain ⟨⟨i1, i2, i3, i4, i5⟩, ⟨i6, i7⟩, i8, i9, i10, ⟨i11, i12⟩, i13⟩ := g
  have r12 : rd u 12 360 = rd w 12 360 := sr_rd h (by decide) (by decide) (by decide) _
  have r15 : rd u 15 360 = rd w 15 360 := sr_rd h (by decide) (by decide) (by decide) _
  have r13 : rd u 13 6 = rd w 13 6 := sr_rd h (by decide) (by decide) (by decide) _
  have r16 : rd u 16 6 = rd w 16 6 := sr_rd h (by decide) (by decide) (by decide) _
  refine ⟨⟨cell_RI c1 c2 i1, cell_INJ c1 c2 i2, cell_TI c1 c5 c6 c7 i3, ?_, ?_⟩, ⟨by rw [kA, c5]; exact i6, by rw [mA, c1]; exact i7⟩, by rw [fA, c1]; exact i8, by rw [tA, c5]; exact i9, by rw [wA, c8]; exact i10, ⟨by rw [c11]; exact i11, by rw [c14]; exact i12⟩, ?_⟩
  · unfold WI; rw [c1, c8, wA]; exact ⟨i4.1, fun t a b => ⟨cell_smW c9 (i4.2 t a b).1, (i4.2 t a b).2⟩⟩
  · unfold TN; rw [tA, c5]; exact i5
  · unfold TXI TXo; rw [r12, r13, r15, r16, c11, c14]; exact i13
theorem RM_18 {w m : Wd} (h : RM w m) (v : Int) : RM (up w 0 8 v) (up m 0 18 v) := by
  obtain ⟨⟨a1, a2, a3, a4, a5⟩, b, c, d, f⟩ := h
  exact ⟨⟨a1, a2, a3, a4, rfl⟩, b, c, d, f⟩
def dbM (w m : Wd) (s e what : Int) : Wd := if refq s e = 0 ∧ (0 ≤ what ∧ what ≤ 1) ∧ w 0 8 < 10 then up m 0 18 (w 0 8 + 1) else m

set_option maxRecDepth 100000 in
set_option maxHeartbeats 4000000 in
theorem c_X8_doubt {B : Bs} {w m : Wd} {s e what : Int} (hM : RM w m) (hI : IM w) (h8 : 0 ≤ w 0 8 ∧ w 0 8 ≤ 10) (hs : inR s) (he : inR e) (hwh : inR what) : Sp (GM B) 5 yX8_doubt cX8_doubt 10 (Option.some FieldType.int) [.ref (ga (GM B) (0)), iv (s), iv (e), iv (what)] m (pE (fun x u => x = dbqw w s e what ∧ sm (dbM w m s e what) u)) := by
  refine Sp.of (by decide) (Nat.le_of_ble_eq_true rfl) (fun X F => ?_)
  obtain ⟨⟨i1, i2, i3, i4, i5⟩, ⟨i6, i7⟩, i8, i9, i10, ⟨i11, i12⟩, i13⟩ := id hI
  have n10 := i1.1
  have h3 := i1.1
  have n8 := i3.1
  have n6 := i4.1
  have p8 := pw_8 n8.2
  have sr1 := up0_sr w 8 (w 0 8 + 1)
  have I1 := sr_IM sr1 hI
  have eB : blB (up w 0 8 (w 0 8 + 1)) s e = blB w s e := by rw [sr_blB sr1]
  have eH : hasL (up w 0 8 (w 0 8 + 1)) = hasL w := sr_hasL sr1
  show Jw (GM B) X _ 0 [some (.ref (ga (GM B) (0))), some (iv (s)), some (iv (e)), some (iv (what))] [] m
  refine jr_iload_n F dX8_doubt_0 rfl ?_
  refine jr_sI F dX8_doubt_1 cs_X8_160 (c_X8_isSchool (by omega)) rfl (Nat.le_of_ble_eq_true rfl) (Nat.le_of_ble_eq_true rfl) rfl (Nat.le_of_ble_eq_true rfl) ?_
  refine jr_ifne_b (tgt := 10) F dX8_doubt_4 (by decide) (fun c4 => ?_) (fun c4 => ?_)
  · skip
    refine jr_iload_n F dX8_doubt_10 rfl ?_
    refine jr_sI F dX8_doubt_11 cs_X8_92 (c_X8_isEdition (by omega)) rfl (Nat.le_of_ble_eq_true rfl) (Nat.le_of_ble_eq_true rfl) rfl (Nat.le_of_ble_eq_true rfl) ?_
    refine jr_ifeq_b (tgt := 26) F dX8_doubt_14 (by decide) (fun c14 => ?_) (fun c14 => ?_)
    · skip
      refine jr_bipush F dX8_doubt_26 (by decide) ?_
      first | exact jr_iret F dX8_doubt_28 (pE_of ⟨by unfold dbqw; rw [refq_e c4 c14, if_neg (by omega)], by unfold dbM; rw [refq_e c4 c14, if_neg (fun q => by omega)]; exact sm_r m⟩) | exact jr_iret F dX8_doubt_28 (pE_of ⟨by unfold dbqw; rw [refq_y c4 c14, if_pos rfl, if_pos c23], by unfold dbM; rw [if_neg (fun q => c23 q.2.1)]; exact sm_r m⟩)
    · skip
      refine jr_iload_n F dX8_doubt_17 rfl ?_
      refine jr_iconst F dX8_doubt_18 ?_
      refine jr_iconst F dX8_doubt_19 ?_
      refine jr_sI F dX8_doubt_20 cs_X8_88 (c_X8_lies (by omega) (by omega) (by omega)) rfl (Nat.le_of_ble_eq_true rfl) (Nat.le_of_ble_eq_true rfl) rfl (Nat.le_of_ble_eq_true rfl) ?_
      refine jr_ifne_b (tgt := 29) F dX8_doubt_23 (by decide) (fun c23 => ?_) (fun c23 => ?_)
      · skip
        refine jr_aload_n F dX8_doubt_29 rfl ?_
        refine jr_getIx F (w 0 8) dX8_doubt_30 fg_X8_225 (Nat.le_of_ble_eq_true rfl) rfl rfl (rn18 hM) (fun q30 => ?_)
        refine jr_bipush F dX8_doubt_33 (by decide) ?_
        refine jr_icmp_ne (tgt := 41) F dX8_doubt_35 (by decide) (fun c35 => ?_) (fun c35 => ?_) (by omega) (by omega)
        · skip
          refine jr_aload_n F dX8_doubt_41 rfl ?_
          refine jr_dup F dX8_doubt_42 rfl ?_
          refine jr_getIx F (w 0 8) dX8_doubt_43 fg_X8_225 (Nat.le_of_ble_eq_true rfl) rfl rfl ((show m 0 18 = (w 0 8) from rn18 hM)) (fun q43 => ?_)
          refine jr_iconst F dX8_doubt_46 ?_
          refine jr_iadd F dX8_doubt_47 ?_
          refine jr_putIx F dX8_doubt_48 fp_X8_225 (Nat.le_of_ble_eq_true rfl) rfl rfl (by omega) (fun w48 e48 => ?_)
          have M48 : RM (up w 0 8 (w 0 8 + 1)) w48 := by rw [e48]; exact RM_18 hM _
          refine jr_aload_n F dX8_doubt_51 rfl ?_
          refine jr_iload_n F dX8_doubt_52 rfl ?_
          refine jr_iload_n F dX8_doubt_53 rfl ?_
          refine jr_vE F dX8_doubt_54 cv_X8_219 (c_X8_tiesOf M48 I1.1.2.2.1 I1.1.2.2.2.2 I1.1.1.1 I1.2.2.2.2.2.1.1 I1.2.2.2.2.2.1.2 I1.2.2.2.2.2.2 c4 (by omega)) (Nat.le_of_ble_eq_true rfl) rfl rfl rfl rfl (Nat.le_of_ble_eq_true rfl) (Nat.le_of_ble_eq_true rfl) rfl (Nat.le_of_ble_eq_true rfl) (fun r54 w54 h54 => ?_)
          have B54 := blB_R i3 s e
          have S54 : sm (up m 0 18 (w 0 8 + 1)) w54 := by have y := wk_sm h54.2; rw [e48] at y; exact y
          rw [h54.1, eB]
          refine jr_istore F dX8_doubt_57 (Nat.le_of_ble_eq_true rfl) rfl ?_
          refine jr_iconst F dX8_doubt_59 ?_
          refine jr_istore F dX8_doubt_60 (Nat.le_of_ble_eq_true rfl) rfl ?_
          refine jr_iconst F dX8_doubt_62 ?_
          refine jr_istore F dX8_doubt_63 (Nat.le_of_ble_eq_true rfl) rfl ?_
          refine jr_iconst F dX8_doubt_65 ?_
          refine jr_istore F dX8_doubt_66 (Nat.le_of_ble_eq_true rfl) rfl ?_
          have L68 : ∀ (fuel : Nat) (x : Wd) (d : Int) (bs : Int) (rv : Int), (pw (w 5 3) - d).toNat < fuel → (0 ≤ d ∧ d ≤ pw (w 5 3)) → (s = 0 ∨ s = 1) → (0 ≤ e ∧ e ≤ 9) → (0 ≤ what ∧ what ≤ 1) → (w 0 8 < 10) → (sm (up m 0 18 (w 0 8 + 1)) x) → (BD w s e (blB w s e) d bs rv) → (-1 ≤ bs ∧ bs ≤ 255) → (0 ≤ rv ∧ rv ≤ d) → Jw (GM B) X (pE (fun x u => x = dbqw w s e what ∧ sm (dbM w m s e what) u)) 68 [some (.ref (ga (GM B) 0)), some (iv s), some (iv e), some (iv what), some (iv (blB w s e)), some (iv bs), some (iv rv), some (iv d)] [] x := by
            intro fuel
            induction fuel with
            | zero => intro x d bs rv hfuel; exact absurd hfuel (Nat.not_lt_zero _)
            | succ fuel ih68 =>
                intro x d bs rv hfuel d0 k4 k14 k23 k35 hx hb bR rR
                have Mx : RM (up w 0 8 (w 0 8 + 1)) x := sm_RM hx (RM_18 hM _)
                have B54 := blB_R i3 s e
                have pd : 0 ≤ pcn d ∧ pcn d ≤ 8 := bcx_R d 8
                have pb : 0 ≤ pcn bs ∧ pcn bs ≤ 8 := bcx_R bs 8
                refine jr_iload F dX8_doubt_68 rfl ?_
                refine jr_iconst F dX8_doubt_70 ?_
                refine jr_aload_n F dX8_doubt_71 rfl ?_
                refine jr_getIx F (w 5 3) dX8_doubt_72 fg_X8_122 (Nat.le_of_ble_eq_true rfl) rfl rfl (show x 0 8 = (up w 0 8 (w 0 8 + 1)) 5 3 from rn8 Mx) (fun q72 => ?_)
                refine jr_ishl F dX8_doubt_75 ?_
                refine jr_top (z := (pw (w 5 3))) F (b_shl1 (by omega)) ?_
                refine jr_icmp_ge (tgt := 207) F dX8_doubt_76 (by decide) (fun c76 => ?_) (fun c76 => ?_) (by omega) (by omega)
                · skip
                  obtain rfl : d = pw (w 5 3) := by omega
                  have E := BD_end (what := what) n8 hb
                  have dq : dbqw w s e what = dbdw w s e (blB w s e) what := by unfold dbqw; rw [refq_y k4 k14, if_pos rfl, if_neg (fun z => z k23), if_pos k35]
                  have dm : dbM w m s e what = up m 0 18 (w 0 8 + 1) := by unfold dbM; rw [if_pos ⟨refq_y k4 k14, k23, k35⟩]
                  refine jr_iload F dX8_doubt_207 rfl ?_
                  refine jr_iconst F dX8_doubt_209 ?_
                  refine jr_icmp_eq (tgt := 217) F dX8_doubt_210 (by decide) (fun c210 => ?_) (fun c210 => ?_) (by omega) (by omega)
                  · skip
                    refine jr_iload F dX8_doubt_217 rfl ?_
                    refine jr_goto (tgt := 224) F dX8_doubt_219 (by decide) ?_
                    first | exact jr_iret F dX8_doubt_224 (pE_of ⟨by rw [dq, E, if_pos (by omega)], by rw [dm]; exact hx⟩) | exact jr_iret F dX8_doubt_224 (pE_of ⟨by rw [dq, E, if_neg (by omega)], by rw [dm]; exact hx⟩)
                  · skip
                    refine jr_iload_n F dX8_doubt_213 rfl ?_
                    refine jr_if_ne (tgt := 222) F dX8_doubt_214 (by decide) (fun c214 => ?_) (fun c214 => ?_) (by omega)
                    · skip
                      refine jr_iload F dX8_doubt_222 rfl ?_
                      first | exact jr_iret F dX8_doubt_224 (pE_of ⟨by rw [dq, E, if_pos (by omega)], by rw [dm]; exact hx⟩) | exact jr_iret F dX8_doubt_224 (pE_of ⟨by rw [dq, E, if_neg (by omega)], by rw [dm]; exact hx⟩)
                    · skip
                      refine jr_iload F dX8_doubt_217 rfl ?_
                      refine jr_goto (tgt := 224) F dX8_doubt_219 (by decide) ?_
                      first | exact jr_iret F dX8_doubt_224 (pE_of ⟨by rw [dq, E, if_pos (by omega)], by rw [dm]; exact hx⟩) | exact jr_iret F dX8_doubt_224 (pE_of ⟨by rw [dq, E, if_neg (by omega)], by rw [dm]; exact hx⟩)
                · skip
                  refine jr_iload F dX8_doubt_79 rfl ?_
                  refine jr_iload F dX8_doubt_81 rfl ?_
                  refine jr_iconst F dX8_doubt_83 ?_
                  refine jr_ixor F dX8_doubt_84 ?_
                  refine jr_iand F dX8_doubt_85 ?_
                  refine jr_top (z := (dfb d (blB w s e))) F (b_andn (by omega) (by omega)) ?_
                  refine jr_if_ne (tgt := 112) F dX8_doubt_86 (by decide) (fun c86 => ?_) (fun c86 => ?_) (by have := dfb_le (a := d) (blB w s e) (by omega); omega)
                  · skip
                    refine jr_iconst F dX8_doubt_112 ?_
                    refine jr_istore F dX8_doubt_113 (Nat.le_of_ble_eq_true rfl) rfl ?_
                    refine jr_iload F dX8_doubt_115 rfl ?_
                    refine jr_if_eq (tgt := 134) F dX8_doubt_117 (by decide) (fun c117 => ?_) (fun c117 => ?_) (by omega)
                    · skip
                      refine jr_iload F dX8_doubt_134 rfl ?_
                      refine jr_if_eq (tgt := 201) F dX8_doubt_136 (by decide) (fun c136 => ?_) (fun c136 => ?_) (by omega)
                      · skip
                        refine jr_iinc F dX8_doubt_201 rfl (Nat.le_of_ble_eq_true rfl) rfl ?_
                        refine jr_goto (tgt := 68) F dX8_doubt_204 (by decide) ?_
                        first | exact jr_sub (ih68 _ (d + 1) bs rv (by omega) (by omega) k4 k14 k23 k35 hx (BD_n d0.1 hb (fun z hz q => by first | exact c86 q.1 | (have := q.2.1; omega) | exact c143 q.2.2)) (by omega) (by omega)) ⟨rfl, rfl, rfl, rfl, rfl, rfl, rfl, rfl, trivial⟩ | exact jr_sub (ih68 _ (d + 1) bs rv (by omega) (by omega) k4 k14 k23 k35 S131 (BD_n d0.1 hb (fun z hz q => by first | exact c86 q.1 | (have := q.2.1; omega) | exact c143 q.2.2)) (by omega) (by omega)) ⟨rfl, rfl, rfl, rfl, rfl, rfl, rfl, rfl, trivial⟩ | exact jr_sub (ih68 _ (d + 1) d 0 (by omega) (by omega) k4 k14 k23 k35 S131 (BD_f d0.1 hb (by omega) c143 (by omega)) (by omega) (by omega)) ⟨rfl, rfl, rfl, rfl, rfl, rfl, rfl, rfl, trivial⟩ | exact jr_sub (ih68 _ (d + 1) bs (rv + 1) (by omega) (by omega) k4 k14 k23 k35 S131 (BD_e d0.1 hb (by omega) c143 (by omega) (by omega)) (by omega) (by omega)) ⟨rfl, rfl, rfl, rfl, rfl, rfl, rfl, rfl, trivial⟩
                      · exact absurd c136 (by omega)
                    · exact absurd c117 (by omega)
                  · skip
                    refine jr_iload F dX8_doubt_89 rfl ?_
                    refine jr_iconst F dX8_doubt_91 ?_
                    refine jr_icmp_eq (tgt := 108) F dX8_doubt_92 (by decide) (fun c92 => ?_) (fun c92 => ?_) (by omega) (by omega)
                    · skip
                      refine jr_iconst F dX8_doubt_108 ?_
                      refine jr_goto (tgt := 113) F dX8_doubt_109 (by decide) ?_
                      refine jr_istore F dX8_doubt_113 (Nat.le_of_ble_eq_true rfl) rfl ?_
                      refine jr_iload F dX8_doubt_115 rfl ?_
                      refine jr_if_eq (tgt := 134) F dX8_doubt_117 (by decide) (fun c117 => ?_) (fun c117 => ?_) (by omega)
                      · exact absurd c117 (by omega)
                      · skip
                        refine jr_aload_n F dX8_doubt_120 rfl ?_
                        refine jr_iload_n F dX8_doubt_121 rfl ?_
                        refine jr_iload_n F dX8_doubt_122 rfl ?_
                        refine jr_iload F dX8_doubt_123 rfl ?_
                        refine jr_iload F dX8_doubt_125 rfl ?_
                        refine jr_iconst F dX8_doubt_127 ?_
                        refine jr_ixor F dX8_doubt_128 ?_
                        refine jr_iand F dX8_doubt_129 ?_
                        refine jr_top (z := (dfb (blB w s e) d)) F (b_andn (by omega) (by omega)) ?_
                        refine jr_iconst F dX8_doubt_130 ?_
                        refine jr_vU F dX8_doubt_131 cv_X8_222 (c_X8_solve Mx I1 k4 k14 (by have := dfb_le (a := blB w s e) d (by omega); omega) (by omega) (KB_d d (by rw [← eB]; exact KB_b s e))) (Nat.le_of_ble_eq_true rfl) rfl rfl rfl rfl (Nat.le_of_ble_eq_true rfl) (Nat.le_of_ble_eq_true rfl) rfl (Nat.le_of_ble_eq_true rfl) (fun w131 h131 => ?_)
                        have S131 : sm (up m 0 18 (w 0 8 + 1)) w131 := sm_t hx h131.1.1
                        have F131 := h131.2.1.1
                        rw [eH] at F131
                        refine jr_iload F dX8_doubt_134 rfl ?_
                        refine jr_if_eq (tgt := 201) F dX8_doubt_136 (by decide) (fun c136 => ?_) (fun c136 => ?_) (by omega)
                        · exact absurd c136 (by omega)
                        · skip
                          refine jr_aload_n F dX8_doubt_139 rfl ?_
                          refine jr_getZx F (bi (hasL w s e (dfb (blB w s e) d) (-1))) dX8_doubt_140 fg_X8_201 (Nat.le_of_ble_eq_true rfl) rfl rfl F131 (fun q140 => ?_)
                          refine jr_ifeq_b (tgt := 201) F dX8_doubt_143 (by decide) (fun c143 => ?_) (fun c143 => ?_)
                          · skip
                            refine jr_iinc F dX8_doubt_201 rfl (Nat.le_of_ble_eq_true rfl) rfl ?_
                            refine jr_goto (tgt := 68) F dX8_doubt_204 (by decide) ?_
                            first | exact jr_sub (ih68 _ (d + 1) bs rv (by omega) (by omega) k4 k14 k23 k35 hx (BD_n d0.1 hb (fun z hz q => by first | exact c86 q.1 | (have := q.2.1; omega) | exact c143 q.2.2)) (by omega) (by omega)) ⟨rfl, rfl, rfl, rfl, rfl, rfl, rfl, rfl, trivial⟩ | exact jr_sub (ih68 _ (d + 1) bs rv (by omega) (by omega) k4 k14 k23 k35 S131 (BD_n d0.1 hb (fun z hz q => by first | exact c86 q.1 | (have := q.2.1; omega) | exact c143 q.2.2)) (by omega) (by omega)) ⟨rfl, rfl, rfl, rfl, rfl, rfl, rfl, rfl, trivial⟩ | exact jr_sub (ih68 _ (d + 1) d 0 (by omega) (by omega) k4 k14 k23 k35 S131 (BD_f d0.1 hb (by omega) c143 (by omega)) (by omega) (by omega)) ⟨rfl, rfl, rfl, rfl, rfl, rfl, rfl, rfl, trivial⟩ | exact jr_sub (ih68 _ (d + 1) bs (rv + 1) (by omega) (by omega) k4 k14 k23 k35 S131 (BD_e d0.1 hb (by omega) c143 (by omega) (by omega)) (by omega) (by omega)) ⟨rfl, rfl, rfl, rfl, rfl, rfl, rfl, rfl, trivial⟩
                          · skip
                            refine jr_iload F dX8_doubt_146 rfl ?_
                            refine jr_iconst F dX8_doubt_148 ?_
                            refine jr_icmp_eq (tgt := 165) F dX8_doubt_149 (by decide) (fun c149 => ?_) (fun c149 => ?_) (by omega) (by omega)
                            · skip
                              refine jr_iconst F dX8_doubt_165 ?_
                              refine jr_goto (tgt := 170) F dX8_doubt_166 (by decide) ?_
                              refine jr_istore F dX8_doubt_170 (Nat.le_of_ble_eq_true rfl) rfl ?_
                              refine jr_iload F dX8_doubt_172 rfl ?_
                              refine jr_if_eq (tgt := 181) F dX8_doubt_174 (by decide) (fun c174 => ?_) (fun c174 => ?_) (by omega)
                              · exact absurd c174 (by omega)
                              · skip
                                refine jr_iconst F dX8_doubt_177 ?_
                                refine jr_goto (tgt := 185) F dX8_doubt_178 (by decide) ?_
                                refine jr_istore F dX8_doubt_185 (Nat.le_of_ble_eq_true rfl) rfl ?_
                                refine jr_iload F dX8_doubt_187 rfl ?_
                                refine jr_if_eq (tgt := 197) F dX8_doubt_189 (by decide) (fun c189 => ?_) (fun c189 => ?_) (by omega)
                                · exact absurd c189 (by omega)
                                · skip
                                  refine jr_iload F dX8_doubt_192 rfl ?_
                                  refine jr_goto (tgt := 199) F dX8_doubt_194 (by decide) ?_
                                  refine jr_istore F dX8_doubt_199 (Nat.le_of_ble_eq_true rfl) rfl ?_
                                  refine jr_iinc F dX8_doubt_201 rfl (Nat.le_of_ble_eq_true rfl) rfl ?_
                                  refine jr_goto (tgt := 68) F dX8_doubt_204 (by decide) ?_
                                  first | exact jr_sub (ih68 _ (d + 1) bs rv (by omega) (by omega) k4 k14 k23 k35 hx (BD_n d0.1 hb (fun z hz q => by first | exact c86 q.1 | (have := q.2.1; omega) | exact c143 q.2.2)) (by omega) (by omega)) ⟨rfl, rfl, rfl, rfl, rfl, rfl, rfl, rfl, trivial⟩ | exact jr_sub (ih68 _ (d + 1) bs rv (by omega) (by omega) k4 k14 k23 k35 S131 (BD_n d0.1 hb (fun z hz q => by first | exact c86 q.1 | (have := q.2.1; omega) | exact c143 q.2.2)) (by omega) (by omega)) ⟨rfl, rfl, rfl, rfl, rfl, rfl, rfl, rfl, trivial⟩ | exact jr_sub (ih68 _ (d + 1) d 0 (by omega) (by omega) k4 k14 k23 k35 S131 (BD_f d0.1 hb (by omega) c143 (by omega)) (by omega) (by omega)) ⟨rfl, rfl, rfl, rfl, rfl, rfl, rfl, rfl, trivial⟩ | exact jr_sub (ih68 _ (d + 1) bs (rv + 1) (by omega) (by omega) k4 k14 k23 k35 S131 (BD_e d0.1 hb (by omega) c143 (by omega) (by omega)) (by omega) (by omega)) ⟨rfl, rfl, rfl, rfl, rfl, rfl, rfl, rfl, trivial⟩
                            · skip
                              refine jr_iload F dX8_doubt_152 rfl ?_
                              refine jr_sI F dX8_doubt_154 cs_X8_228 (c_X8_ones (by omega)) rfl (Nat.le_of_ble_eq_true rfl) (Nat.le_of_ble_eq_true rfl) rfl (Nat.le_of_ble_eq_true rfl) ?_
                              refine jr_iload F dX8_doubt_157 rfl ?_
                              refine jr_sI F dX8_doubt_159 cs_X8_228 (c_X8_ones (by omega)) rfl (Nat.le_of_ble_eq_true rfl) (Nat.le_of_ble_eq_true rfl) rfl (Nat.le_of_ble_eq_true rfl) ?_
                              refine jr_icmp_ge (tgt := 169) F dX8_doubt_162 (by decide) (fun c162 => ?_) (fun c162 => ?_) (by omega) (by omega)
                              · skip
                                refine jr_iconst F dX8_doubt_169 ?_
                                refine jr_istore F dX8_doubt_170 (Nat.le_of_ble_eq_true rfl) rfl ?_
                                refine jr_iload F dX8_doubt_172 rfl ?_
                                refine jr_if_eq (tgt := 181) F dX8_doubt_174 (by decide) (fun c174 => ?_) (fun c174 => ?_) (by omega)
                                · skip
                                  refine jr_iload F dX8_doubt_181 rfl ?_
                                  refine jr_iconst F dX8_doubt_183 ?_
                                  refine jr_iadd F dX8_doubt_184 ?_
                                  refine jr_istore F dX8_doubt_185 (Nat.le_of_ble_eq_true rfl) rfl ?_
                                  refine jr_iload F dX8_doubt_187 rfl ?_
                                  refine jr_if_eq (tgt := 197) F dX8_doubt_189 (by decide) (fun c189 => ?_) (fun c189 => ?_) (by omega)
                                  · skip
                                    refine jr_iload F dX8_doubt_197 rfl ?_
                                    refine jr_istore F dX8_doubt_199 (Nat.le_of_ble_eq_true rfl) rfl ?_
                                    refine jr_iinc F dX8_doubt_201 rfl (Nat.le_of_ble_eq_true rfl) rfl ?_
                                    refine jr_goto (tgt := 68) F dX8_doubt_204 (by decide) ?_
                                    first | exact jr_sub (ih68 _ (d + 1) bs rv (by omega) (by omega) k4 k14 k23 k35 hx (BD_n d0.1 hb (fun z hz q => by first | exact c86 q.1 | (have := q.2.1; omega) | exact c143 q.2.2)) (by omega) (by omega)) ⟨rfl, rfl, rfl, rfl, rfl, rfl, rfl, rfl, trivial⟩ | exact jr_sub (ih68 _ (d + 1) bs rv (by omega) (by omega) k4 k14 k23 k35 S131 (BD_n d0.1 hb (fun z hz q => by first | exact c86 q.1 | (have := q.2.1; omega) | exact c143 q.2.2)) (by omega) (by omega)) ⟨rfl, rfl, rfl, rfl, rfl, rfl, rfl, rfl, trivial⟩ | exact jr_sub (ih68 _ (d + 1) d 0 (by omega) (by omega) k4 k14 k23 k35 S131 (BD_f d0.1 hb (by omega) c143 (by omega)) (by omega) (by omega)) ⟨rfl, rfl, rfl, rfl, rfl, rfl, rfl, rfl, trivial⟩ | exact jr_sub (ih68 _ (d + 1) bs (rv + 1) (by omega) (by omega) k4 k14 k23 k35 S131 (BD_e d0.1 hb (by omega) c143 (by omega) (by omega)) (by omega) (by omega)) ⟨rfl, rfl, rfl, rfl, rfl, rfl, rfl, rfl, trivial⟩
                                  · exact absurd c189 (by omega)
                                · exact absurd c174 (by omega)
                              · skip
                                refine jr_iconst F dX8_doubt_165 ?_
                                refine jr_goto (tgt := 170) F dX8_doubt_166 (by decide) ?_
                                refine jr_istore F dX8_doubt_170 (Nat.le_of_ble_eq_true rfl) rfl ?_
                                refine jr_iload F dX8_doubt_172 rfl ?_
                                refine jr_if_eq (tgt := 181) F dX8_doubt_174 (by decide) (fun c174 => ?_) (fun c174 => ?_) (by omega)
                                · exact absurd c174 (by omega)
                                · skip
                                  refine jr_iconst F dX8_doubt_177 ?_
                                  refine jr_goto (tgt := 185) F dX8_doubt_178 (by decide) ?_
                                  refine jr_istore F dX8_doubt_185 (Nat.le_of_ble_eq_true rfl) rfl ?_
                                  refine jr_iload F dX8_doubt_187 rfl ?_
                                  refine jr_if_eq (tgt := 197) F dX8_doubt_189 (by decide) (fun c189 => ?_) (fun c189 => ?_) (by omega)
                                  · exact absurd c189 (by omega)
                                  · skip
                                    refine jr_iload F dX8_doubt_192 rfl ?_
                                    refine jr_goto (tgt := 199) F dX8_doubt_194 (by decide) ?_
                                    refine jr_istore F dX8_doubt_199 (Nat.le_of_ble_eq_true rfl) rfl ?_
                                    refine jr_iinc F dX8_doubt_201 rfl (Nat.le_of_ble_eq_true rfl) rfl ?_
                                    refine jr_goto (tgt := 68) F dX8_doubt_204 (by decide) ?_
                                    first | exact jr_sub (ih68 _ (d + 1) bs rv (by omega) (by omega) k4 k14 k23 k35 hx (BD_n d0.1 hb (fun z hz q => by first | exact c86 q.1 | (have := q.2.1; omega) | exact c143 q.2.2)) (by omega) (by omega)) ⟨rfl, rfl, rfl, rfl, rfl, rfl, rfl, rfl, trivial⟩ | exact jr_sub (ih68 _ (d + 1) bs rv (by omega) (by omega) k4 k14 k23 k35 S131 (BD_n d0.1 hb (fun z hz q => by first | exact c86 q.1 | (have := q.2.1; omega) | exact c143 q.2.2)) (by omega) (by omega)) ⟨rfl, rfl, rfl, rfl, rfl, rfl, rfl, rfl, trivial⟩ | exact jr_sub (ih68 _ (d + 1) d 0 (by omega) (by omega) k4 k14 k23 k35 S131 (BD_f d0.1 hb (by omega) c143 (by omega)) (by omega) (by omega)) ⟨rfl, rfl, rfl, rfl, rfl, rfl, rfl, rfl, trivial⟩ | exact jr_sub (ih68 _ (d + 1) bs (rv + 1) (by omega) (by omega) k4 k14 k23 k35 S131 (BD_e d0.1 hb (by omega) c143 (by omega) (by omega)) (by omega) (by omega)) ⟨rfl, rfl, rfl, rfl, rfl, rfl, rfl, rfl, trivial⟩
                    · skip
                      refine jr_iload F dX8_doubt_95 rfl ?_
                      refine jr_sI F dX8_doubt_97 cs_X8_228 (c_X8_ones (by omega)) rfl (Nat.le_of_ble_eq_true rfl) (Nat.le_of_ble_eq_true rfl) rfl (Nat.le_of_ble_eq_true rfl) ?_
                      refine jr_iload F dX8_doubt_100 rfl ?_
                      refine jr_sI F dX8_doubt_102 cs_X8_228 (c_X8_ones (by omega)) rfl (Nat.le_of_ble_eq_true rfl) (Nat.le_of_ble_eq_true rfl) rfl (Nat.le_of_ble_eq_true rfl) ?_
                      refine jr_icmp_gt (tgt := 112) F dX8_doubt_105 (by decide) (fun c105 => ?_) (fun c105 => ?_) (by omega) (by omega)
                      · skip
                        refine jr_iconst F dX8_doubt_112 ?_
                        refine jr_istore F dX8_doubt_113 (Nat.le_of_ble_eq_true rfl) rfl ?_
                        refine jr_iload F dX8_doubt_115 rfl ?_
                        refine jr_if_eq (tgt := 134) F dX8_doubt_117 (by decide) (fun c117 => ?_) (fun c117 => ?_) (by omega)
                        · skip
                          refine jr_iload F dX8_doubt_134 rfl ?_
                          refine jr_if_eq (tgt := 201) F dX8_doubt_136 (by decide) (fun c136 => ?_) (fun c136 => ?_) (by omega)
                          · skip
                            refine jr_iinc F dX8_doubt_201 rfl (Nat.le_of_ble_eq_true rfl) rfl ?_
                            refine jr_goto (tgt := 68) F dX8_doubt_204 (by decide) ?_
                            first | exact jr_sub (ih68 _ (d + 1) bs rv (by omega) (by omega) k4 k14 k23 k35 hx (BD_n d0.1 hb (fun z hz q => by first | exact c86 q.1 | (have := q.2.1; omega) | exact c143 q.2.2)) (by omega) (by omega)) ⟨rfl, rfl, rfl, rfl, rfl, rfl, rfl, rfl, trivial⟩ | exact jr_sub (ih68 _ (d + 1) bs rv (by omega) (by omega) k4 k14 k23 k35 S131 (BD_n d0.1 hb (fun z hz q => by first | exact c86 q.1 | (have := q.2.1; omega) | exact c143 q.2.2)) (by omega) (by omega)) ⟨rfl, rfl, rfl, rfl, rfl, rfl, rfl, rfl, trivial⟩ | exact jr_sub (ih68 _ (d + 1) d 0 (by omega) (by omega) k4 k14 k23 k35 S131 (BD_f d0.1 hb (by omega) c143 (by omega)) (by omega) (by omega)) ⟨rfl, rfl, rfl, rfl, rfl, rfl, rfl, rfl, trivial⟩ | exact jr_sub (ih68 _ (d + 1) bs (rv + 1) (by omega) (by omega) k4 k14 k23 k35 S131 (BD_e d0.1 hb (by omega) c143 (by omega) (by omega)) (by omega) (by omega)) ⟨rfl, rfl, rfl, rfl, rfl, rfl, rfl, rfl, trivial⟩
                          · exact absurd c136 (by omega)
                        · exact absurd c117 (by omega)
                      · skip
                        refine jr_iconst F dX8_doubt_108 ?_
                        refine jr_goto (tgt := 113) F dX8_doubt_109 (by decide) ?_
                        refine jr_istore F dX8_doubt_113 (Nat.le_of_ble_eq_true rfl) rfl ?_
                        refine jr_iload F dX8_doubt_115 rfl ?_
                        refine jr_if_eq (tgt := 134) F dX8_doubt_117 (by decide) (fun c117 => ?_) (fun c117 => ?_) (by omega)
                        · exact absurd c117 (by omega)
                        · skip
                          refine jr_aload_n F dX8_doubt_120 rfl ?_
                          refine jr_iload_n F dX8_doubt_121 rfl ?_
                          refine jr_iload_n F dX8_doubt_122 rfl ?_
                          refine jr_iload F dX8_doubt_123 rfl ?_
                          refine jr_iload F dX8_doubt_125 rfl ?_
                          refine jr_iconst F dX8_doubt_127 ?_
                          refine jr_ixor F dX8_doubt_128 ?_
                          refine jr_iand F dX8_doubt_129 ?_
                          refine jr_top (z := (dfb (blB w s e) d)) F (b_andn (by omega) (by omega)) ?_
                          refine jr_iconst F dX8_doubt_130 ?_
                          refine jr_vU F dX8_doubt_131 cv_X8_222 (c_X8_solve Mx I1 k4 k14 (by have := dfb_le (a := blB w s e) d (by omega); omega) (by omega) (KB_d d (by rw [← eB]; exact KB_b s e))) (Nat.le_of_ble_eq_true rfl) rfl rfl rfl rfl (Nat.le_of_ble_eq_true rfl) (Nat.le_of_ble_eq_true rfl) rfl (Nat.le_of_ble_eq_true rfl) (fun w131 h131 => ?_)
                          have S131 : sm (up m 0 18 (w 0 8 + 1)) w131 := sm_t hx h131.1.1
                          have F131 := h131.2.1.1
                          rw [eH] at F131
                          refine jr_iload F dX8_doubt_134 rfl ?_
                          refine jr_if_eq (tgt := 201) F dX8_doubt_136 (by decide) (fun c136 => ?_) (fun c136 => ?_) (by omega)
                          · exact absurd c136 (by omega)
                          · skip
                            refine jr_aload_n F dX8_doubt_139 rfl ?_
                            refine jr_getZx F (bi (hasL w s e (dfb (blB w s e) d) (-1))) dX8_doubt_140 fg_X8_201 (Nat.le_of_ble_eq_true rfl) rfl rfl F131 (fun q140 => ?_)
                            refine jr_ifeq_b (tgt := 201) F dX8_doubt_143 (by decide) (fun c143 => ?_) (fun c143 => ?_)
                            · skip
                              refine jr_iinc F dX8_doubt_201 rfl (Nat.le_of_ble_eq_true rfl) rfl ?_
                              refine jr_goto (tgt := 68) F dX8_doubt_204 (by decide) ?_
                              first | exact jr_sub (ih68 _ (d + 1) bs rv (by omega) (by omega) k4 k14 k23 k35 hx (BD_n d0.1 hb (fun z hz q => by first | exact c86 q.1 | (have := q.2.1; omega) | exact c143 q.2.2)) (by omega) (by omega)) ⟨rfl, rfl, rfl, rfl, rfl, rfl, rfl, rfl, trivial⟩ | exact jr_sub (ih68 _ (d + 1) bs rv (by omega) (by omega) k4 k14 k23 k35 S131 (BD_n d0.1 hb (fun z hz q => by first | exact c86 q.1 | (have := q.2.1; omega) | exact c143 q.2.2)) (by omega) (by omega)) ⟨rfl, rfl, rfl, rfl, rfl, rfl, rfl, rfl, trivial⟩ | exact jr_sub (ih68 _ (d + 1) d 0 (by omega) (by omega) k4 k14 k23 k35 S131 (BD_f d0.1 hb (by omega) c143 (by omega)) (by omega) (by omega)) ⟨rfl, rfl, rfl, rfl, rfl, rfl, rfl, rfl, trivial⟩ | exact jr_sub (ih68 _ (d + 1) bs (rv + 1) (by omega) (by omega) k4 k14 k23 k35 S131 (BD_e d0.1 hb (by omega) c143 (by omega) (by omega)) (by omega) (by omega)) ⟨rfl, rfl, rfl, rfl, rfl, rfl, rfl, rfl, trivial⟩
                            · skip
                              refine jr_iload F dX8_doubt_146 rfl ?_
                              refine jr_iconst F dX8_doubt_148 ?_
                              refine jr_icmp_eq (tgt := 165) F dX8_doubt_149 (by decide) (fun c149 => ?_) (fun c149 => ?_) (by omega) (by omega)
                              · skip
                                refine jr_iconst F dX8_doubt_165 ?_
                                refine jr_goto (tgt := 170) F dX8_doubt_166 (by decide) ?_
                                refine jr_istore F dX8_doubt_170 (Nat.le_of_ble_eq_true rfl) rfl ?_
                                refine jr_iload F dX8_doubt_172 rfl ?_
                                refine jr_if_eq (tgt := 181) F dX8_doubt_174 (by decide) (fun c174 => ?_) (fun c174 => ?_) (by omega)
                                · exact absurd c174 (by omega)
                                · skip
                                  refine jr_iconst F dX8_doubt_177 ?_
                                  refine jr_goto (tgt := 185) F dX8_doubt_178 (by decide) ?_
                                  refine jr_istore F dX8_doubt_185 (Nat.le_of_ble_eq_true rfl) rfl ?_
                                  refine jr_iload F dX8_doubt_187 rfl ?_
                                  refine jr_if_eq (tgt := 197) F dX8_doubt_189 (by decide) (fun c189 => ?_) (fun c189 => ?_) (by omega)
                                  · exact absurd c189 (by omega)
                                  · skip
                                    refine jr_iload F dX8_doubt_192 rfl ?_
                                    refine jr_goto (tgt := 199) F dX8_doubt_194 (by decide) ?_
                                    refine jr_istore F dX8_doubt_199 (Nat.le_of_ble_eq_true rfl) rfl ?_
                                    refine jr_iinc F dX8_doubt_201 rfl (Nat.le_of_ble_eq_true rfl) rfl ?_
                                    refine jr_goto (tgt := 68) F dX8_doubt_204 (by decide) ?_
                                    first | exact jr_sub (ih68 _ (d + 1) bs rv (by omega) (by omega) k4 k14 k23 k35 hx (BD_n d0.1 hb (fun z hz q => by first | exact c86 q.1 | (have := q.2.1; omega) | exact c143 q.2.2)) (by omega) (by omega)) ⟨rfl, rfl, rfl, rfl, rfl, rfl, rfl, rfl, trivial⟩ | exact jr_sub (ih68 _ (d + 1) bs rv (by omega) (by omega) k4 k14 k23 k35 S131 (BD_n d0.1 hb (fun z hz q => by first | exact c86 q.1 | (have := q.2.1; omega) | exact c143 q.2.2)) (by omega) (by omega)) ⟨rfl, rfl, rfl, rfl, rfl, rfl, rfl, rfl, trivial⟩ | exact jr_sub (ih68 _ (d + 1) d 0 (by omega) (by omega) k4 k14 k23 k35 S131 (BD_f d0.1 hb (by omega) c143 (by omega)) (by omega) (by omega)) ⟨rfl, rfl, rfl, rfl, rfl, rfl, rfl, rfl, trivial⟩ | exact jr_sub (ih68 _ (d + 1) bs (rv + 1) (by omega) (by omega) k4 k14 k23 k35 S131 (BD_e d0.1 hb (by omega) c143 (by omega) (by omega)) (by omega) (by omega)) ⟨rfl, rfl, rfl, rfl, rfl, rfl, rfl, rfl, trivial⟩
                              · skip
                                refine jr_iload F dX8_doubt_152 rfl ?_
                                refine jr_sI F dX8_doubt_154 cs_X8_228 (c_X8_ones (by omega)) rfl (Nat.le_of_ble_eq_true rfl) (Nat.le_of_ble_eq_true rfl) rfl (Nat.le_of_ble_eq_true rfl) ?_
                                refine jr_iload F dX8_doubt_157 rfl ?_
                                refine jr_sI F dX8_doubt_159 cs_X8_228 (c_X8_ones (by omega)) rfl (Nat.le_of_ble_eq_true rfl) (Nat.le_of_ble_eq_true rfl) rfl (Nat.le_of_ble_eq_true rfl) ?_
                                refine jr_icmp_ge (tgt := 169) F dX8_doubt_162 (by decide) (fun c162 => ?_) (fun c162 => ?_) (by omega) (by omega)
                                · skip
                                  refine jr_iconst F dX8_doubt_169 ?_
                                  refine jr_istore F dX8_doubt_170 (Nat.le_of_ble_eq_true rfl) rfl ?_
                                  refine jr_iload F dX8_doubt_172 rfl ?_
                                  refine jr_if_eq (tgt := 181) F dX8_doubt_174 (by decide) (fun c174 => ?_) (fun c174 => ?_) (by omega)
                                  · skip
                                    refine jr_iload F dX8_doubt_181 rfl ?_
                                    refine jr_iconst F dX8_doubt_183 ?_
                                    refine jr_iadd F dX8_doubt_184 ?_
                                    refine jr_istore F dX8_doubt_185 (Nat.le_of_ble_eq_true rfl) rfl ?_
                                    refine jr_iload F dX8_doubt_187 rfl ?_
                                    refine jr_if_eq (tgt := 197) F dX8_doubt_189 (by decide) (fun c189 => ?_) (fun c189 => ?_) (by omega)
                                    · skip
                                      refine jr_iload F dX8_doubt_197 rfl ?_
                                      refine jr_istore F dX8_doubt_199 (Nat.le_of_ble_eq_true rfl) rfl ?_
                                      refine jr_iinc F dX8_doubt_201 rfl (Nat.le_of_ble_eq_true rfl) rfl ?_
                                      refine jr_goto (tgt := 68) F dX8_doubt_204 (by decide) ?_
                                      first | exact jr_sub (ih68 _ (d + 1) bs rv (by omega) (by omega) k4 k14 k23 k35 hx (BD_n d0.1 hb (fun z hz q => by first | exact c86 q.1 | (have := q.2.1; omega) | exact c143 q.2.2)) (by omega) (by omega)) ⟨rfl, rfl, rfl, rfl, rfl, rfl, rfl, rfl, trivial⟩ | exact jr_sub (ih68 _ (d + 1) bs rv (by omega) (by omega) k4 k14 k23 k35 S131 (BD_n d0.1 hb (fun z hz q => by first | exact c86 q.1 | (have := q.2.1; omega) | exact c143 q.2.2)) (by omega) (by omega)) ⟨rfl, rfl, rfl, rfl, rfl, rfl, rfl, rfl, trivial⟩ | exact jr_sub (ih68 _ (d + 1) d 0 (by omega) (by omega) k4 k14 k23 k35 S131 (BD_f d0.1 hb (by omega) c143 (by omega)) (by omega) (by omega)) ⟨rfl, rfl, rfl, rfl, rfl, rfl, rfl, rfl, trivial⟩ | exact jr_sub (ih68 _ (d + 1) bs (rv + 1) (by omega) (by omega) k4 k14 k23 k35 S131 (BD_e d0.1 hb (by omega) c143 (by omega) (by omega)) (by omega) (by omega)) ⟨rfl, rfl, rfl, rfl, rfl, rfl, rfl, rfl, trivial⟩
                                    · exact absurd c189 (by omega)
                                  · exact absurd c174 (by omega)
                                · skip
                                  refine jr_iconst F dX8_doubt_165 ?_
                                  refine jr_goto (tgt := 170) F dX8_doubt_166 (by decide) ?_
                                  refine jr_istore F dX8_doubt_170 (Nat.le_of_ble_eq_true rfl) rfl ?_
                                  refine jr_iload F dX8_doubt_172 rfl ?_
                                  refine jr_if_eq (tgt := 181) F dX8_doubt_174 (by decide) (fun c174 => ?_) (fun c174 => ?_) (by omega)
                                  · exact absurd c174 (by omega)
                                  · skip
                                    refine jr_iconst F dX8_doubt_177 ?_
                                    refine jr_goto (tgt := 185) F dX8_doubt_178 (by decide) ?_
                                    refine jr_istore F dX8_doubt_185 (Nat.le_of_ble_eq_true rfl) rfl ?_
                                    refine jr_iload F dX8_doubt_187 rfl ?_
                                    refine jr_if_eq (tgt := 197) F dX8_doubt_189 (by decide) (fun c189 => ?_) (fun c189 => ?_) (by omega)
                                    · exact absurd c189 (by omega)
                                    · skip
                                      refine jr_iload F dX8_doubt_192 rfl ?_
                                      refine jr_goto (tgt := 199) F dX8_doubt_194 (by decide) ?_
                                      refine jr_istore F dX8_doubt_199 (Nat.le_of_ble_eq_true rfl) rfl ?_
                                      refine jr_iinc F dX8_doubt_201 rfl (Nat.le_of_ble_eq_true rfl) rfl ?_
                                      refine jr_goto (tgt := 68) F dX8_doubt_204 (by decide) ?_
                                      first | exact jr_sub (ih68 _ (d + 1) bs rv (by omega) (by omega) k4 k14 k23 k35 hx (BD_n d0.1 hb (fun z hz q => by first | exact c86 q.1 | (have := q.2.1; omega) | exact c143 q.2.2)) (by omega) (by omega)) ⟨rfl, rfl, rfl, rfl, rfl, rfl, rfl, rfl, trivial⟩ | exact jr_sub (ih68 _ (d + 1) bs rv (by omega) (by omega) k4 k14 k23 k35 S131 (BD_n d0.1 hb (fun z hz q => by first | exact c86 q.1 | (have := q.2.1; omega) | exact c143 q.2.2)) (by omega) (by omega)) ⟨rfl, rfl, rfl, rfl, rfl, rfl, rfl, rfl, trivial⟩ | exact jr_sub (ih68 _ (d + 1) d 0 (by omega) (by omega) k4 k14 k23 k35 S131 (BD_f d0.1 hb (by omega) c143 (by omega)) (by omega) (by omega)) ⟨rfl, rfl, rfl, rfl, rfl, rfl, rfl, rfl, trivial⟩ | exact jr_sub (ih68 _ (d + 1) bs (rv + 1) (by omega) (by omega) k4 k14 k23 k35 S131 (BD_e d0.1 hb (by omega) c143 (by omega) (by omega)) (by omega) (by omega)) ⟨rfl, rfl, rfl, rfl, rfl, rfl, rfl, rfl, trivial⟩
          exact jr_sub (L68 _ _ 0 (-1) 0 (Nat.lt_succ_self _) (by omega) c4 c14 c23 (by omega) S54 (BD_0 _ _ _ _) (by omega) (by omega)) ⟨rfl, rfl, rfl, rfl, rfl, rfl, rfl, rfl, trivial⟩
        · skip
          refine jr_bipush F dX8_doubt_38 (by decide) ?_
          exact jr_iret F dX8_doubt_40 (pE_of ⟨by unfold dbqw; rw [refq_y c4 c14, if_pos rfl, if_neg (fun z => z c23), if_neg (by omega)], by unfold dbM; rw [if_neg (fun q => by omega)]; exact sm_r m⟩)
      · skip
        refine jr_bipush F dX8_doubt_26 (by decide) ?_
        first | exact jr_iret F dX8_doubt_28 (pE_of ⟨by unfold dbqw; rw [refq_e c4 c14, if_neg (by omega)], by unfold dbM; rw [refq_e c4 c14, if_neg (fun q => by omega)]; exact sm_r m⟩) | exact jr_iret F dX8_doubt_28 (pE_of ⟨by unfold dbqw; rw [refq_y c4 c14, if_pos rfl, if_pos c23], by unfold dbM; rw [if_neg (fun q => c23 q.2.1)]; exact sm_r m⟩)
  · skip
    refine jr_bipush F dX8_doubt_7 (by decide) ?_
    exact jr_iret F dX8_doubt_9 (pE_of ⟨by unfold dbqw; rw [refq_s c4, if_neg (by omega)], by unfold dbM; rw [refq_s c4, if_neg (fun q => by omega)]; exact sm_r m⟩)

