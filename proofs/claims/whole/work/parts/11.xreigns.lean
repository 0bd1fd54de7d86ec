/-! the reigns as the class tells them: facts by place -/
noncomputable def fa (w : Wd) (r f : Int) : Int := rd w 2 60 (r * 6 + f)
noncomputable def td (w : Wd) (r : Int) : Int := rd w 3 10 r
theorem fa_in {w : Wd} {r f : Int} (h0 : 0 ≤ r) (h1 : r < 10) (f0 : 0 ≤ f) (f1 : f < 6) : fa w r f = w 2 (r * 6 + f) := rd_in (by omega) (by omega)
theorem td_in {w : Wd} {r : Int} (h0 : 0 ≤ r) (h1 : r < 10) : td w r = w 3 r := rd_in h0 h1
theorem jr_ok {G : Gc} {X : Xc} {post : Option Value → Wd → Prop} {pc : Nat} {lv : List (Option Value)} {st : List Value} {w : Wd} (k : okW G w → Jw G X post pc lv st w) : Jw G X post pc lv st w :=
  fun H locs ls hP hD hS hO hl => k hO H locs ls hP hD hS hO hl
theorem jr_ti {G : Gc} {X : Xc} {post : Option Value → Wd → Prop} {pc : Nat} {lv : List (Option Value)} {rest : List Value} {w : Wd} {a b : Int} (h : a = b) (k : Jw G X post pc lv (iv b :: rest) w) : Jw G X post pc lv (iv a :: rest) w := by rw [h]; exact k
theorem rd_R {B : Bs} {w : Wd} (hO : okW (GX B) w) {k n : Nat} (hs : shX k = .inl (0, n)) (i : Int) : inR (rd w k n i) := by
  by_cases h : 0 ≤ i ∧ i < n
  · rw [rd_in h.1 h.2]; exact hO.1 k 0 n hs i h.1 h.2
  · rw [rd_out h]; omega
theorem fa_R {B : Bs} {w : Wd} (hO : okW (GX B) w) (r f : Int) : inR (fa w r f) := rd_R (k := 2) (n := 60) hO rfl _
theorem td_R {B : Bs} {w : Wd} (hO : okW (GX B) w) (r : Int) : inR (td w r) := rd_R (k := 3) (n := 10) hO rfl _
def isMis (k : Int) : Prop := k = 3 ∨ k = 6
noncomputable def lapw (w : Wd) (r : Int) : Int := @ite _ (fa w r 1 = 1) (Classical.propDecidable _) (fa w r 3) 0
noncomputable def othw (w : Wd) (r c : Int) : Int := @ite _ (fa w r 1 = 6) (Classical.propDecidable _) 0 (max 0 (fa w r 3 - c))
noncomputable def leaw (w : Wd) (r c : Int) : Int := @ite _ (fa w r 1 = 2) (Classical.propDecidable _) 0 (@ite _ (fa w r 1 = 5) (Classical.propDecidable _) 1 (@ite _ (isMis (fa w r 1)) (Classical.propDecidable _) (min (fa w r 2 - c) (othw w r c)) (fa w r 2 - c)))
noncomputable def mosw (w : Wd) (r c : Int) : Int := @ite _ (fa w r 1 = 5) (Classical.propDecidable _) 60 (@ite _ (isMis (fa w r 1)) (Classical.propDecidable _) (max (fa w r 2 - c) (othw w r c)) (fa w r 2 - c))
/-- small numbers everywhere in the reigns' facts -/
def smR (w : Wd) (r : Int) : Prop := 0 ≤ r ∧ r < 10 ∧ ∀ f : Int, 0 ≤ f → f < 6 → -1 ≤ fa w r f ∧ fa w r f ≤ 60

set_option maxRecDepth 100000 in
set_option maxHeartbeats 4000000 in
theorem c_X3_size {B : Bs} {w : Wd}   : Sp (GX B) 0 yX3_size cX3_size 1 (Option.some FieldType.int) [.ref (ga (GX B) (1))] w (pI w (w 1 3)) := by
  refine Sp.of (by decide) (Nat.le_of_ble_eq_true rfl) (fun X F => ?_)
  show Jw (GX B) X _ 0 [some (.ref (ga (GX B) (1)))] [] w
  refine jr_aload_n F dX3_size_0 rfl ?_
  refine jr_getIx F (w 1 3) dX3_size_1 fg_X3_21 (Nat.le_of_ble_eq_true rfl) rfl rfl rfl (fun q1 => ?_)
  exact jr_iret F dX3_size_4 (pI_of (by first | rfl | omega) rfl)

set_option maxRecDepth 100000 in
set_option maxHeartbeats 4000000 in
theorem c_X3_has {B : Bs} {w : Wd} {r : Int} (hr : inR r) : Sp (GX B) 0 yX3_has cX3_has 2 (Option.some FieldType.boolean) [.ref (ga (GX B) (1)), iv (r)] w (pI w (bi (0 ≤ r ∧ r < w 1 3))) := by
  refine Sp.of (by decide) (Nat.le_of_ble_eq_true rfl) (fun X F => ?_)
  show Jw (GX B) X _ 0 [some (.ref (ga (GX B) (1))), some (iv (r))] [] w
  refine jr_iload_n F dX3_has_0 rfl ?_
  refine jr_if_lt (tgt := 16) F dX3_has_1 (by decide) (fun c1 => ?_) (fun c1 => ?_) (by omega)
  · skip
    refine jr_iconst F dX3_has_16 ?_
    exact jr_zret F dX3_has_17 (pI_of (bi_f (by omega)).symm rfl) (by omega)
  · skip
    refine jr_iload_n F dX3_has_4 rfl ?_
    refine jr_aload_n F dX3_has_5 rfl ?_
    refine jr_getIx F (w 1 3) dX3_has_6 fg_X3_21 (Nat.le_of_ble_eq_true rfl) rfl rfl rfl (fun q6 => ?_)
    refine jr_icmp_ge (tgt := 16) F dX3_has_9 (by decide) (fun c9 => ?_) (fun c9 => ?_) (by omega) (by omega)
    · skip
      refine jr_iconst F dX3_has_16 ?_
      exact jr_zret F dX3_has_17 (pI_of (bi_f (by omega)).symm rfl) (by omega)
    · skip
      refine jr_iconst F dX3_has_12 ?_
      refine jr_goto (tgt := 17) F dX3_has_13 (by decide) ?_
      exact jr_zret F dX3_has_17 (pI_of (bi_t (by omega)).symm rfl) (by omega)

set_option maxRecDepth 100000 in
set_option maxHeartbeats 4000000 in
theorem c_X3_fact {B : Bs} {w : Wd} {r f : Int} (h : inR (r * 6 + f)) : Sp (GX B) 1 yX3_fact cX3_fact 3 (Option.some FieldType.int) [.ref (ga (GX B) (1)), iv (r), iv (f)] w (pI w (fa w r f)) := by
  refine Sp.of (by decide) (Nat.le_of_ble_eq_true rfl) (fun X F => ?_)
  show Jw (GX B) X _ 0 [some (.ref (ga (GX B) (1))), some (iv (r)), some (iv (f))] [] w
  refine jr_aload_n F dX3_fact_0 rfl ?_
  refine jr_getR (t := 2) F dX3_fact_1 fg_X3_11 (Nat.le_of_ble_eq_true rfl) rfl rfl ?_
  refine jr_iload_n F dX3_fact_4 rfl ?_
  refine jr_bipush F dX3_fact_5 (by decide) ?_
  refine jr_imul F dX3_fact_7 ?_
  refine jr_iload_n F dX3_fact_8 rfl ?_
  refine jr_iadd F dX3_fact_9 ?_
  refine jr_nI F dX3_fact_10 cn_X3_28 (c_X7_at (Nat.le_of_ble_eq_true rfl) rfl (by omega) (by omega)) rfl (Nat.le_of_ble_eq_true rfl) (Nat.le_of_ble_eq_true rfl) rfl (Nat.le_of_ble_eq_true rfl) ?_
  exact jr_iret F dX3_fact_13 (pI_of (by first | rfl | omega) rfl)

set_option maxRecDepth 100000 in
set_option maxHeartbeats 4000000 in
theorem c_X3_lastOf {B : Bs} {w : Wd} {l : Int} (h : inR l) : Sp (GX B) 1 yX3_lastOf cX3_lastOf 2 (Option.some FieldType.int) [.ref (ga (GX B) (1)), iv (l)] w (pI w (rd w 4 5 l)) := by
  refine Sp.of (by decide) (Nat.le_of_ble_eq_true rfl) (fun X F => ?_)
  show Jw (GX B) X _ 0 [some (.ref (ga (GX B) (1))), some (iv (l))] [] w
  refine jr_aload_n F dX3_lastOf_0 rfl ?_
  refine jr_getR (t := 4) F dX3_lastOf_1 fg_X3_18 (Nat.le_of_ble_eq_true rfl) rfl rfl ?_
  refine jr_iload_n F dX3_lastOf_4 rfl ?_
  refine jr_nI F dX3_lastOf_5 cn_X3_28 (c_X7_at (Nat.le_of_ble_eq_true rfl) rfl (by omega) (by omega)) rfl (Nat.le_of_ble_eq_true rfl) (Nat.le_of_ble_eq_true rfl) rfl (Nat.le_of_ble_eq_true rfl) ?_
  exact jr_iret F dX3_lastOf_8 (pI_of (by first | rfl | omega) rfl)

set_option maxRecDepth 100000 in
set_option maxHeartbeats 4000000 in
theorem c_X3_isOf {B : Bs} {w : Wd} {k t : Int} (hk : inR k) (ht : inR t) : Sp (GX B) 0 yX3_isOf cX3_isOf 2 (Option.some FieldType.boolean) [iv (k), iv (t)] w (pI w (bi (t = 0 ∨ k = t ∨ k = 6 ∧ t = 3))) := by
  refine Sp.of (by decide) (Nat.le_of_ble_eq_true rfl) (fun X F => ?_)
  show Jw (GX B) X _ 0 [some (iv (k)), some (iv (t))] [] w
  refine jr_iload_n F dX3_isOf_0 rfl ?_
  refine jr_if_eq (tgt := 20) F dX3_isOf_1 (by decide) (fun c1 => ?_) (fun c1 => ?_) (by omega)
  · skip
    refine jr_iconst F dX3_isOf_20 ?_
    refine jr_goto (tgt := 25) F dX3_isOf_21 (by decide) ?_
    exact jr_zret F dX3_isOf_25 (pI_of (bi_t (by omega)).symm rfl) (by omega)
  · skip
    refine jr_iload_n F dX3_isOf_4 rfl ?_
    refine jr_iload_n F dX3_isOf_5 rfl ?_
    refine jr_icmp_eq (tgt := 20) F dX3_isOf_6 (by decide) (fun c6 => ?_) (fun c6 => ?_) (by omega) (by omega)
    · skip
      refine jr_iconst F dX3_isOf_20 ?_
      refine jr_goto (tgt := 25) F dX3_isOf_21 (by decide) ?_
      exact jr_zret F dX3_isOf_25 (pI_of (bi_t (by omega)).symm rfl) (by omega)
    · skip
      refine jr_iload_n F dX3_isOf_9 rfl ?_
      refine jr_bipush F dX3_isOf_10 (by decide) ?_
      refine jr_icmp_ne (tgt := 24) F dX3_isOf_12 (by decide) (fun c12 => ?_) (fun c12 => ?_) (by omega) (by omega)
      · skip
        refine jr_iconst F dX3_isOf_24 ?_
        exact jr_zret F dX3_isOf_25 (pI_of (bi_f (by omega)).symm rfl) (by omega)
      · skip
        refine jr_iload_n F dX3_isOf_15 rfl ?_
        refine jr_iconst F dX3_isOf_16 ?_
        refine jr_icmp_ne (tgt := 24) F dX3_isOf_17 (by decide) (fun c17 => ?_) (fun c17 => ?_) (by omega) (by omega)
        · skip
          refine jr_iconst F dX3_isOf_24 ?_
          exact jr_zret F dX3_isOf_25 (pI_of (bi_f (by omega)).symm rfl) (by omega)
        · skip
          refine jr_iconst F dX3_isOf_20 ?_
          refine jr_goto (tgt := 25) F dX3_isOf_21 (by decide) ?_
          exact jr_zret F dX3_isOf_25 (pI_of (bi_t (by omega)).symm rfl) (by omega)

set_option maxRecDepth 100000 in
set_option maxHeartbeats 4000000 in
theorem c_X3_hasRoomFor {B : Bs} {w : Wd} {k : Int} (hk : inR k) : Sp (GX B) 1 yX3_hasRoomFor cX3_hasRoomFor 2 (Option.some FieldType.boolean) [.ref (ga (GX B) (1)), iv (k)] w (pI w (bi (w 1 3 < 10 ∧ ¬ (isMis k ∧ 3 ≤ w 1 4)))) := by
  refine Sp.of (by decide) (Nat.le_of_ble_eq_true rfl) (fun X F => ?_)
  show Jw (GX B) X _ 0 [some (.ref (ga (GX B) (1))), some (iv (k))] [] w
  refine jr_aload_n F dX3_hasRoomFor_0 rfl ?_
  refine jr_getIx F (w 1 3) dX3_hasRoomFor_1 fg_X3_21 (Nat.le_of_ble_eq_true rfl) rfl rfl rfl (fun q1 => ?_)
  refine jr_bipush F dX3_hasRoomFor_4 (by decide) ?_
  refine jr_icmp_ge (tgt := 29) F dX3_hasRoomFor_6 (by decide) (fun c6 => ?_) (fun c6 => ?_) (by omega) (by omega)
  · skip
    refine jr_iconst F dX3_hasRoomFor_29 ?_
    exact jr_zret F dX3_hasRoomFor_30 (pI_of (bi_f (by first | omega | (unfold isMis; omega))).symm rfl) (by omega)
  · skip
    refine jr_iload_n F dX3_hasRoomFor_9 rfl ?_
    refine jr_iconst F dX3_hasRoomFor_10 ?_
    refine jr_sI F dX3_hasRoomFor_11 cs_X3_32 (c_X3_isOf (by omega) (by omega)) rfl (Nat.le_of_ble_eq_true rfl) (Nat.le_of_ble_eq_true rfl) rfl (Nat.le_of_ble_eq_true rfl) ?_
    refine jr_ifeq_b (tgt := 25) F dX3_hasRoomFor_14 (by decide) (fun c14 => ?_) (fun c14 => ?_)
    · skip
      refine jr_iconst F dX3_hasRoomFor_25 ?_
      refine jr_goto (tgt := 30) F dX3_hasRoomFor_26 (by decide) ?_
      exact jr_zret F dX3_hasRoomFor_30 (pI_of (bi_t (by first | omega | (unfold isMis; omega))).symm rfl) (by omega)
    · skip
      refine jr_aload_n F dX3_hasRoomFor_17 rfl ?_
      refine jr_getIx F (w 1 4) dX3_hasRoomFor_18 fg_X3_25 (Nat.le_of_ble_eq_true rfl) rfl rfl rfl (fun q18 => ?_)
      refine jr_iconst F dX3_hasRoomFor_21 ?_
      refine jr_icmp_ge (tgt := 29) F dX3_hasRoomFor_22 (by decide) (fun c22 => ?_) (fun c22 => ?_) (by omega) (by omega)
      · skip
        refine jr_iconst F dX3_hasRoomFor_29 ?_
        exact jr_zret F dX3_hasRoomFor_30 (pI_of (bi_f (by first | omega | (unfold isMis; omega))).symm rfl) (by omega)
      · skip
        refine jr_iconst F dX3_hasRoomFor_25 ?_
        refine jr_goto (tgt := 30) F dX3_hasRoomFor_26 (by decide) ?_
        exact jr_zret F dX3_hasRoomFor_30 (pI_of (bi_t (by first | omega | (unfold isMis; omega))).symm rfl) (by omega)

set_option maxRecDepth 100000 in
set_option maxHeartbeats 4000000 in
theorem c_X3_toldYear {B : Bs} {w : Wd} {r : Int} (h : inR r) : Sp (GX B) 1 yX3_toldYear cX3_toldYear 2 (Option.some FieldType.int) [.ref (ga (GX B) (1)), iv (r)] w (pI w (td w r)) := by
  refine Sp.of (by decide) (Nat.le_of_ble_eq_true rfl) (fun X F => ?_)
  show Jw (GX B) X _ 0 [some (.ref (ga (GX B) (1))), some (iv (r))] [] w
  refine jr_aload_n F dX3_toldYear_0 rfl ?_
  refine jr_getR (t := 3) F dX3_toldYear_1 fg_X3_15 (Nat.le_of_ble_eq_true rfl) rfl rfl ?_
  refine jr_iload_n F dX3_toldYear_4 rfl ?_
  refine jr_nI F dX3_toldYear_5 cn_X3_28 (c_X7_at (Nat.le_of_ble_eq_true rfl) rfl (by omega) (by omega)) rfl (Nat.le_of_ble_eq_true rfl) (Nat.le_of_ble_eq_true rfl) rfl (Nat.le_of_ble_eq_true rfl) ?_
  exact jr_iret F dX3_toldYear_8 (pI_of (by first | rfl | omega) rfl)

set_option maxRecDepth 100000 in
set_option maxHeartbeats 4000000 in
theorem c_X3_renumber {B : Bs} {w : Wd} {r n : Int} (h0 : 0 ≤ r) (h1 : r < 10) (hn : inR n) : Sp (GX B) 2 yX3_renumber cX3_renumber 4 (Option.some FieldType.int) [.ref (ga (GX B) (1)), iv (r), iv (n)] w (pI (up w 2 (r * 6 + 2) n) (fa w r 2)) := by
  refine Sp.of (by decide) (Nat.le_of_ble_eq_true rfl) (fun X F => ?_)
  show Jw (GX B) X _ 0 [some (.ref (ga (GX B) (1))), some (iv (r)), some (iv (n))] [] w
  refine jr_aload_n F dX3_renumber_0 rfl ?_
  refine jr_iload_n F dX3_renumber_1 rfl ?_
  refine jr_iconst F dX3_renumber_2 ?_
  refine jr_vI F dX3_renumber_3 cv_X3_44 (c_X3_fact (by omega)) (Nat.le_of_ble_eq_true rfl) rfl rfl rfl rfl (Nat.le_of_ble_eq_true rfl) (Nat.le_of_ble_eq_true rfl) rfl (Nat.le_of_ble_eq_true rfl) ?_
  refine jr_istore_n F dX3_renumber_6 (Nat.le_of_ble_eq_true rfl) rfl ?_
  refine jr_aload_n F dX3_renumber_7 rfl ?_
  refine jr_getR (t := 2) F dX3_renumber_8 fg_X3_11 (Nat.le_of_ble_eq_true rfl) rfl rfl ?_
  refine jr_iload_n F dX3_renumber_11 rfl ?_
  refine jr_bipush F dX3_renumber_12 (by decide) ?_
  refine jr_imul F dX3_renumber_14 ?_
  refine jr_iconst F dX3_renumber_15 ?_
  refine jr_iadd F dX3_renumber_16 ?_
  refine jr_iload_n F dX3_renumber_17 rfl ?_
  refine jr_nVx F dX3_renumber_18 cn_X3_36 (c_put_in (Nat.le_of_ble_eq_true rfl) rfl (by omega) (by omega) (by omega) (by omega)) rfl (Nat.le_of_ble_eq_true rfl) (Nat.le_of_ble_eq_true rfl) rfl (Nat.le_of_ble_eq_true rfl) (fun w18 e18 => ?_)
  refine jr_iload_n F dX3_renumber_21 rfl ?_
  exact jr_iret F dX3_renumber_22 (pI_of (by first | rfl | omega) (by subst e18; first | rfl | omega))

set_option maxRecDepth 100000 in
set_option maxHeartbeats 4000000 in
theorem c_X3_retell {B : Bs} {w : Wd} {r n : Int} (h0 : 0 ≤ r) (h1 : r < 10) (hn : inR n) : Sp (GX B) 2 yX3_retell cX3_retell 4 (Option.some FieldType.int) [.ref (ga (GX B) (1)), iv (r), iv (n)] w (pI (up w 3 r n) (td w r)) := by
  refine Sp.of (by decide) (Nat.le_of_ble_eq_true rfl) (fun X F => ?_)
  show Jw (GX B) X _ 0 [some (.ref (ga (GX B) (1))), some (iv (r)), some (iv (n))] [] w
  refine jr_aload_n F dX3_retell_0 rfl ?_
  refine jr_iload_n F dX3_retell_1 rfl ?_
  refine jr_vI F dX3_retell_2 cv_X3_48 (c_X3_toldYear (by omega)) (Nat.le_of_ble_eq_true rfl) rfl rfl rfl rfl (Nat.le_of_ble_eq_true rfl) (Nat.le_of_ble_eq_true rfl) rfl (Nat.le_of_ble_eq_true rfl) ?_
  refine jr_istore_n F dX3_retell_5 (Nat.le_of_ble_eq_true rfl) rfl ?_
  refine jr_aload_n F dX3_retell_6 rfl ?_
  refine jr_getR (t := 3) F dX3_retell_7 fg_X3_15 (Nat.le_of_ble_eq_true rfl) rfl rfl ?_
  refine jr_iload_n F dX3_retell_10 rfl ?_
  refine jr_iload_n F dX3_retell_11 rfl ?_
  refine jr_nVx F dX3_retell_12 cn_X3_36 (c_put_in (Nat.le_of_ble_eq_true rfl) rfl (by omega) (by omega) (by omega) (by omega)) rfl (Nat.le_of_ble_eq_true rfl) (Nat.le_of_ble_eq_true rfl) rfl (Nat.le_of_ble_eq_true rfl) (fun w12 e12 => ?_)
  refine jr_iload_n F dX3_retell_15 rfl ?_
  exact jr_iret F dX3_retell_16 (pI_of (by first | rfl | omega) (by subst e12; first | rfl | omega))

set_option maxRecDepth 100000 in
set_option maxHeartbeats 4000000 in
theorem c_X3_isKnown {B : Bs} {w : Wd} {r e : Int} (hr : inR r) (h10 : w 1 3 ≤ 10) (he : inR e) : Sp (GX B) 2 yX3_isKnown cX3_isKnown 3 (Option.some FieldType.boolean) [.ref (ga (GX B) (1)), iv (r), iv (e)] w (pI w (bi (0 ≤ r ∧ r < w 1 3 ∧ fa w r 4 ≤ e))) := by
  refine Sp.of (by decide) (Nat.le_of_ble_eq_true rfl) (fun X F => ?_)
  refine jr_ok (fun hO => ?_)
  have q4 := fa_R hO r 4
  show Jw (GX B) X _ 0 [some (.ref (ga (GX B) (1))), some (iv (r)), some (iv (e))] [] w
  refine jr_aload_n F dX3_isKnown_0 rfl ?_
  refine jr_iload_n F dX3_isKnown_1 rfl ?_
  refine jr_vI F dX3_isKnown_2 cv_X3_51 (c_X3_has (by omega)) (Nat.le_of_ble_eq_true rfl) rfl rfl rfl rfl (Nat.le_of_ble_eq_true rfl) (Nat.le_of_ble_eq_true rfl) rfl (Nat.le_of_ble_eq_true rfl) ?_
  refine jr_ifeq_b (tgt := 22) F dX3_isKnown_5 (by decide) (fun c5 => ?_) (fun c5 => ?_)
  · skip
    refine jr_iconst F dX3_isKnown_22 ?_
    exact jr_zret F dX3_isKnown_23 (pI_of (bi_f (by omega)).symm rfl) (by omega)
  · skip
    refine jr_aload_n F dX3_isKnown_8 rfl ?_
    refine jr_iload_n F dX3_isKnown_9 rfl ?_
    refine jr_iconst F dX3_isKnown_10 ?_
    refine jr_vI F dX3_isKnown_11 cv_X3_44 (c_X3_fact (by omega)) (Nat.le_of_ble_eq_true rfl) rfl rfl rfl rfl (Nat.le_of_ble_eq_true rfl) (Nat.le_of_ble_eq_true rfl) rfl (Nat.le_of_ble_eq_true rfl) ?_
    refine jr_iload_n F dX3_isKnown_14 rfl ?_
    refine jr_icmp_gt (tgt := 22) F dX3_isKnown_15 (by decide) (fun c15 => ?_) (fun c15 => ?_) (by omega) (by omega)
    · skip
      refine jr_iconst F dX3_isKnown_22 ?_
      exact jr_zret F dX3_isKnown_23 (pI_of (bi_f (by omega)).symm rfl) (by omega)
    · skip
      refine jr_iconst F dX3_isKnown_18 ?_
      refine jr_goto (tgt := 23) F dX3_isKnown_19 (by decide) ?_
      exact jr_zret F dX3_isKnown_23 (pI_of (bi_t (by omega)).symm rfl) (by omega)

set_option maxRecDepth 100000 in
set_option maxHeartbeats 4000000 in
theorem c_X3_overlap {B : Bs} {w : Wd} {r : Int} (h : inR (r * 6)) (h2 : inR (r * 6 + 3)) : Sp (GX B) 2 yX3_overlap cX3_overlap 2 (Option.some FieldType.int) [.ref (ga (GX B) (1)), iv (r)] w (pI w (lapw w r)) := by
  refine Sp.of (by decide) (Nat.le_of_ble_eq_true rfl) (fun X F => ?_)
  refine jr_ok (fun hO => ?_)
  have q1 := fa_R hO r 1
  show Jw (GX B) X _ 0 [some (.ref (ga (GX B) (1))), some (iv (r))] [] w
  refine jr_aload_n F dX3_overlap_0 rfl ?_
  refine jr_iload_n F dX3_overlap_1 rfl ?_
  refine jr_iconst F dX3_overlap_2 ?_
  refine jr_vI F dX3_overlap_3 cv_X3_44 (c_X3_fact (by omega)) (Nat.le_of_ble_eq_true rfl) rfl rfl rfl rfl (Nat.le_of_ble_eq_true rfl) (Nat.le_of_ble_eq_true rfl) rfl (Nat.le_of_ble_eq_true rfl) ?_
  refine jr_iconst F dX3_overlap_6 ?_
  refine jr_icmp_ne (tgt := 19) F dX3_overlap_7 (by decide) (fun c7 => ?_) (fun c7 => ?_) (by omega) (by omega)
  · skip
    refine jr_iconst F dX3_overlap_19 ?_
    exact jr_iret F dX3_overlap_20 (pI_of (by unfold lapw; first | rw [if_pos (by omega)] | rw [if_neg (by omega)]) rfl)
  · skip
    refine jr_aload_n F dX3_overlap_10 rfl ?_
    refine jr_iload_n F dX3_overlap_11 rfl ?_
    refine jr_iconst F dX3_overlap_12 ?_
    refine jr_vI F dX3_overlap_13 cv_X3_44 (c_X3_fact (by omega)) (Nat.le_of_ble_eq_true rfl) rfl rfl rfl rfl (Nat.le_of_ble_eq_true rfl) (Nat.le_of_ble_eq_true rfl) rfl (Nat.le_of_ble_eq_true rfl) ?_
    refine jr_goto (tgt := 20) F dX3_overlap_16 (by decide) ?_
    exact jr_iret F dX3_overlap_20 (pI_of (by unfold lapw; first | rw [if_pos (by omega)] | rw [if_neg (by omega)]) rfl)

set_option maxRecDepth 100000 in
set_option maxHeartbeats 4000000 in
theorem c_X3_counted {B : Bs} {w : Wd} {r c : Int} (h : inR (r * 6 + 2)) : Sp (GX B) 1 yX3_counted cX3_counted 3 (Option.some FieldType.int) [.ref (ga (GX B) (1)), iv (r), iv (c)] w (pI w (fa w r 2 - c)) := by
  refine Sp.of (by decide) (Nat.le_of_ble_eq_true rfl) (fun X F => ?_)
  show Jw (GX B) X _ 0 [some (.ref (ga (GX B) (1))), some (iv (r)), some (iv (c))] [] w
  refine jr_aload_n F dX3_counted_0 rfl ?_
  refine jr_getR (t := 2) F dX3_counted_1 fg_X3_11 (Nat.le_of_ble_eq_true rfl) rfl rfl ?_
  refine jr_iload_n F dX3_counted_4 rfl ?_
  refine jr_bipush F dX3_counted_5 (by decide) ?_
  refine jr_imul F dX3_counted_7 ?_
  refine jr_iconst F dX3_counted_8 ?_
  refine jr_iadd F dX3_counted_9 ?_
  refine jr_nI F dX3_counted_10 cn_X3_28 (c_X7_at (Nat.le_of_ble_eq_true rfl) rfl (by omega) (by omega)) rfl (Nat.le_of_ble_eq_true rfl) (Nat.le_of_ble_eq_true rfl) rfl (Nat.le_of_ble_eq_true rfl) ?_
  refine jr_iload_n F dX3_counted_13 rfl ?_
  refine jr_isub F dX3_counted_14 ?_
  exact jr_iret F dX3_counted_15 (pI_of (by first | rfl | omega) rfl)

set_option maxRecDepth 100000 in
set_option maxHeartbeats 4000000 in
theorem c_X3_otherReading {B : Bs} {w : Wd} {r c : Int} (h : inR (r * 6)) (h2 : inR (r * 6 + 3)) (hc : 0 ≤ c ∧ c ≤ 1) (h3 : -1 ≤ fa w r 3) : Sp (GX B) 1 yX3_otherReading cX3_otherReading 4 (Option.some FieldType.int) [.ref (ga (GX B) (1)), iv (r), iv (c)] w (pI w (othw w r c)) := by
  refine Sp.of (by decide) (Nat.le_of_ble_eq_true rfl) (fun X F => ?_)
  refine jr_ok (fun hO => ?_)
  have q1 := fa_R hO r 1
  have q3 := fa_R hO r 3
  show Jw (GX B) X _ 0 [some (.ref (ga (GX B) (1))), some (iv (r)), some (iv (c))] [] w
  refine jr_aload_n F dX3_otherReading_0 rfl ?_
  refine jr_getR (t := 2) F dX3_otherReading_1 fg_X3_11 (Nat.le_of_ble_eq_true rfl) rfl rfl ?_
  refine jr_iload_n F dX3_otherReading_4 rfl ?_
  refine jr_bipush F dX3_otherReading_5 (by decide) ?_
  refine jr_imul F dX3_otherReading_7 ?_
  refine jr_iconst F dX3_otherReading_8 ?_
  refine jr_iadd F dX3_otherReading_9 ?_
  refine jr_nI F dX3_otherReading_10 cn_X3_28 (c_X7_at (Nat.le_of_ble_eq_true rfl) rfl (by omega) (by omega)) rfl (Nat.le_of_ble_eq_true rfl) (Nat.le_of_ble_eq_true rfl) rfl (Nat.le_of_ble_eq_true rfl) ?_
  refine jr_ti (b := fa w r 1) rfl ?_
  refine jr_bipush F dX3_otherReading_13 (by decide) ?_
  refine jr_icmp_ne (tgt := 22) F dX3_otherReading_15 (by decide) (fun c15 => ?_) (fun c15 => ?_) (by omega) (by omega)
  · skip
    refine jr_iconst F dX3_otherReading_22 ?_
    refine jr_istore_n F dX3_otherReading_23 (Nat.le_of_ble_eq_true rfl) rfl ?_
    refine jr_iload_n F dX3_otherReading_24 rfl ?_
    refine jr_if_eq (tgt := 32) F dX3_otherReading_25 (by decide) (fun c25 => ?_) (fun c25 => ?_) (by omega)
    · skip
      refine jr_iconst F dX3_otherReading_32 ?_
      refine jr_aload_n F dX3_otherReading_33 rfl ?_
      refine jr_getR (t := 2) F dX3_otherReading_34 fg_X3_11 (Nat.le_of_ble_eq_true rfl) rfl rfl ?_
      refine jr_iload_n F dX3_otherReading_37 rfl ?_
      refine jr_bipush F dX3_otherReading_38 (by decide) ?_
      refine jr_imul F dX3_otherReading_40 ?_
      refine jr_iconst F dX3_otherReading_41 ?_
      refine jr_iadd F dX3_otherReading_42 ?_
      refine jr_nI F dX3_otherReading_43 cn_X3_28 (c_X7_at (Nat.le_of_ble_eq_true rfl) rfl (by omega) (by omega)) rfl (Nat.le_of_ble_eq_true rfl) (Nat.le_of_ble_eq_true rfl) rfl (Nat.le_of_ble_eq_true rfl) ?_
      refine jr_ti (b := fa w r 3) rfl ?_
      refine jr_iload_n F dX3_otherReading_46 rfl ?_
      refine jr_isub F dX3_otherReading_47 ?_
      refine jr_sI F dX3_otherReading_48 cs_X3_58 (c_J_max (by omega) (by omega)) rfl (Nat.le_of_ble_eq_true rfl) (Nat.le_of_ble_eq_true rfl) rfl (Nat.le_of_ble_eq_true rfl) ?_
      exact jr_iret F dX3_otherReading_51 (pI_of (by unfold othw; first | rw [if_pos (by omega)] | rw [if_neg (by omega)]) rfl)
    · exact absurd c25 (by omega)
  · skip
    refine jr_iconst F dX3_otherReading_18 ?_
    refine jr_goto (tgt := 23) F dX3_otherReading_19 (by decide) ?_
    refine jr_istore_n F dX3_otherReading_23 (Nat.le_of_ble_eq_true rfl) rfl ?_
    refine jr_iload_n F dX3_otherReading_24 rfl ?_
    refine jr_if_eq (tgt := 32) F dX3_otherReading_25 (by decide) (fun c25 => ?_) (fun c25 => ?_) (by omega)
    · exact absurd c25 (by omega)
    · skip
      refine jr_iconst F dX3_otherReading_28 ?_
      refine jr_goto (tgt := 51) F dX3_otherReading_29 (by decide) ?_
      exact jr_iret F dX3_otherReading_51 (pI_of (by unfold othw; first | rw [if_pos (by omega)] | rw [if_neg (by omega)]) rfl)

set_option maxRecDepth 100000 in
set_option maxHeartbeats 4000000 in
theorem c_X3_shortest {B : Bs} {w : Wd} {r c : Int} (hs : smR w r) (hc : 0 ≤ c ∧ c ≤ 1) : Sp (GX B) 2 yX3_shortest cX3_shortest 3 (Option.some FieldType.int) [.ref (ga (GX B) (1)), iv (r), iv (c)] w (pI w (leaw w r c)) := by
  refine Sp.of (by decide) (Nat.le_of_ble_eq_true rfl) (fun X F => ?_)
  refine jr_ok (fun hO => ?_)
  obtain ⟨s0, s1, sf⟩ := hs
  have q1 := sf 1 (by omega) (by omega)
  have q2 := sf 2 (by omega) (by omega)
  have q3 := sf 3 (by omega) (by omega)
  have oo : -61 ≤ othw w r c ∧ othw w r c ≤ 61 := by unfold othw; split <;> omega
  show Jw (GX B) X _ 0 [some (.ref (ga (GX B) (1))), some (iv (r)), some (iv (c))] [] w
  refine jr_aload_n F dX3_shortest_0 rfl ?_
  refine jr_iload_n F dX3_shortest_1 rfl ?_
  refine jr_iconst F dX3_shortest_2 ?_
  refine jr_vI F dX3_shortest_3 cv_X3_44 (c_X3_fact (by omega)) (Nat.le_of_ble_eq_true rfl) rfl rfl rfl rfl (Nat.le_of_ble_eq_true rfl) (Nat.le_of_ble_eq_true rfl) rfl (Nat.le_of_ble_eq_true rfl) ?_
  rcases (show fa w r 1 = 2 ∨ fa w r 1 = 3 ∨ fa w r 1 = 4 ∨ fa w r 1 = 5 ∨ fa w r 1 = 6 ∨ (fa w r 1 < 2 ∨ 6 < fa w r 1) by omega) with c6 | c6 | c6 | c6 | c6 | c6
  · refine jr_tsIn (tgt := 40) F (2) dX3_shortest_6 c6 (by omega) (by omega) rfl (by decide) (by omega) ?_
    refine jr_iconst F dX3_shortest_40 ?_
    exact jr_iret F dX3_shortest_41 (pI_of (by unfold leaw isMis; (repeat' split) <;> first | rfl | (exfalso; omega) | omega) rfl)
  · refine jr_tsIn (tgt := 44) F (3) dX3_shortest_6 c6 (by omega) (by omega) rfl (by decide) (by omega) ?_
    refine jr_aload_n F dX3_shortest_44 rfl ?_
    refine jr_iload_n F dX3_shortest_45 rfl ?_
    refine jr_iload_n F dX3_shortest_46 rfl ?_
    refine jr_vI F dX3_shortest_47 cv_X3_63 (c_X3_counted (by omega)) (Nat.le_of_ble_eq_true rfl) rfl rfl rfl rfl (Nat.le_of_ble_eq_true rfl) (Nat.le_of_ble_eq_true rfl) rfl (Nat.le_of_ble_eq_true rfl) ?_
    refine jr_aload_n F dX3_shortest_50 rfl ?_
    refine jr_iload_n F dX3_shortest_51 rfl ?_
    refine jr_iload_n F dX3_shortest_52 rfl ?_
    refine jr_vI F dX3_shortest_53 cv_X3_66 (c_X3_otherReading (by omega) (by omega) (by omega) (by omega)) (Nat.le_of_ble_eq_true rfl) rfl rfl rfl rfl (Nat.le_of_ble_eq_true rfl) (Nat.le_of_ble_eq_true rfl) rfl (Nat.le_of_ble_eq_true rfl) ?_
    refine jr_sI F dX3_shortest_56 cs_X3_69 (c_J_min (by omega) (by omega)) rfl (Nat.le_of_ble_eq_true rfl) (Nat.le_of_ble_eq_true rfl) rfl (Nat.le_of_ble_eq_true rfl) ?_
    exact jr_iret F dX3_shortest_59 (pI_of (by unfold leaw isMis; (repeat' split) <;> first | rfl | (exfalso; omega) | omega) rfl)
  · refine jr_tsIn (tgt := 60) F (4) dX3_shortest_6 c6 (by omega) (by omega) rfl (by decide) (by omega) ?_
    refine jr_aload_n F dX3_shortest_60 rfl ?_
    refine jr_iload_n F dX3_shortest_61 rfl ?_
    refine jr_iload_n F dX3_shortest_62 rfl ?_
    refine jr_vI F dX3_shortest_63 cv_X3_63 (c_X3_counted (by omega)) (Nat.le_of_ble_eq_true rfl) rfl rfl rfl rfl (Nat.le_of_ble_eq_true rfl) (Nat.le_of_ble_eq_true rfl) rfl (Nat.le_of_ble_eq_true rfl) ?_
    exact jr_iret F dX3_shortest_66 (pI_of (by unfold leaw isMis; (repeat' split) <;> first | rfl | (exfalso; omega) | omega) rfl)
  · refine jr_tsIn (tgt := 42) F (5) dX3_shortest_6 c6 (by omega) (by omega) rfl (by decide) (by omega) ?_
    refine jr_iconst F dX3_shortest_42 ?_
    exact jr_iret F dX3_shortest_43 (pI_of (by unfold leaw isMis; (repeat' split) <;> first | rfl | (exfalso; omega) | omega) rfl)
  · refine jr_tsIn (tgt := 44) F (6) dX3_shortest_6 c6 (by omega) (by omega) rfl (by decide) (by omega) ?_
    refine jr_aload_n F dX3_shortest_44 rfl ?_
    refine jr_iload_n F dX3_shortest_45 rfl ?_
    refine jr_iload_n F dX3_shortest_46 rfl ?_
    refine jr_vI F dX3_shortest_47 cv_X3_63 (c_X3_counted (by omega)) (Nat.le_of_ble_eq_true rfl) rfl rfl rfl rfl (Nat.le_of_ble_eq_true rfl) (Nat.le_of_ble_eq_true rfl) rfl (Nat.le_of_ble_eq_true rfl) ?_
    refine jr_aload_n F dX3_shortest_50 rfl ?_
    refine jr_iload_n F dX3_shortest_51 rfl ?_
    refine jr_iload_n F dX3_shortest_52 rfl ?_
    refine jr_vI F dX3_shortest_53 cv_X3_66 (c_X3_otherReading (by omega) (by omega) (by omega) (by omega)) (Nat.le_of_ble_eq_true rfl) rfl rfl rfl rfl (Nat.le_of_ble_eq_true rfl) (Nat.le_of_ble_eq_true rfl) rfl (Nat.le_of_ble_eq_true rfl) ?_
    refine jr_sI F dX3_shortest_56 cs_X3_69 (c_J_min (by omega) (by omega)) rfl (Nat.le_of_ble_eq_true rfl) (Nat.le_of_ble_eq_true rfl) rfl (Nat.le_of_ble_eq_true rfl) ?_
    exact jr_iret F dX3_shortest_59 (pI_of (by unfold leaw isMis; (repeat' split) <;> first | rfl | (exfalso; omega) | omega) rfl)
  · refine jr_tsOut (tgt := 60) F dX3_shortest_6 c6 (by decide) (by omega) ?_
    refine jr_aload_n F dX3_shortest_60 rfl ?_
    refine jr_iload_n F dX3_shortest_61 rfl ?_
    refine jr_iload_n F dX3_shortest_62 rfl ?_
    refine jr_vI F dX3_shortest_63 cv_X3_63 (c_X3_counted (by omega)) (Nat.le_of_ble_eq_true rfl) rfl rfl rfl rfl (Nat.le_of_ble_eq_true rfl) (Nat.le_of_ble_eq_true rfl) rfl (Nat.le_of_ble_eq_true rfl) ?_
    exact jr_iret F dX3_shortest_66 (pI_of (by unfold leaw isMis; (repeat' split) <;> first | rfl | (exfalso; omega) | omega) rfl)

set_option maxRecDepth 100000 in
set_option maxHeartbeats 4000000 in
theorem c_X3_longest {B : Bs} {w : Wd} {r c : Int} (hs : smR w r) (hc : 0 ≤ c ∧ c ≤ 1) : Sp (GX B) 2 yX3_longest cX3_longest 3 (Option.some FieldType.int) [.ref (ga (GX B) (1)), iv (r), iv (c)] w (pI w (mosw w r c)) := by
  refine Sp.of (by decide) (Nat.le_of_ble_eq_true rfl) (fun X F => ?_)
  refine jr_ok (fun hO => ?_)
  obtain ⟨s0, s1, sf⟩ := hs
  have q1 := sf 1 (by omega) (by omega)
  have q2 := sf 2 (by omega) (by omega)
  have q3 := sf 3 (by omega) (by omega)
  have oo : -61 ≤ othw w r c ∧ othw w r c ≤ 61 := by unfold othw; split <;> omega
  show Jw (GX B) X _ 0 [some (.ref (ga (GX B) (1))), some (iv (r)), some (iv (c))] [] w
  refine jr_aload_n F dX3_longest_0 rfl ?_
  refine jr_iload_n F dX3_longest_1 rfl ?_
  refine jr_iconst F dX3_longest_2 ?_
  refine jr_vI F dX3_longest_3 cv_X3_44 (c_X3_fact (by omega)) (Nat.le_of_ble_eq_true rfl) rfl rfl rfl rfl (Nat.le_of_ble_eq_true rfl) (Nat.le_of_ble_eq_true rfl) rfl (Nat.le_of_ble_eq_true rfl) ?_
  rcases (show fa w r 1 = 3 ∨ fa w r 1 = 4 ∨ fa w r 1 = 5 ∨ fa w r 1 = 6 ∨ (fa w r 1 < 3 ∨ 6 < fa w r 1) by omega) with c6 | c6 | c6 | c6 | c6
  · refine jr_tsIn (tgt := 39) F (3) dX3_longest_6 c6 (by omega) (by omega) rfl (by decide) (by omega) ?_
    refine jr_aload_n F dX3_longest_39 rfl ?_
    refine jr_iload_n F dX3_longest_40 rfl ?_
    refine jr_iload_n F dX3_longest_41 rfl ?_
    refine jr_vI F dX3_longest_42 cv_X3_63 (c_X3_counted (by omega)) (Nat.le_of_ble_eq_true rfl) rfl rfl rfl rfl (Nat.le_of_ble_eq_true rfl) (Nat.le_of_ble_eq_true rfl) rfl (Nat.le_of_ble_eq_true rfl) ?_
    refine jr_aload_n F dX3_longest_45 rfl ?_
    refine jr_iload_n F dX3_longest_46 rfl ?_
    refine jr_iload_n F dX3_longest_47 rfl ?_
    refine jr_vI F dX3_longest_48 cv_X3_66 (c_X3_otherReading (by omega) (by omega) (by omega) (by omega)) (Nat.le_of_ble_eq_true rfl) rfl rfl rfl rfl (Nat.le_of_ble_eq_true rfl) (Nat.le_of_ble_eq_true rfl) rfl (Nat.le_of_ble_eq_true rfl) ?_
    refine jr_sI F dX3_longest_51 cs_X3_58 (c_J_max (by omega) (by omega)) rfl (Nat.le_of_ble_eq_true rfl) (Nat.le_of_ble_eq_true rfl) rfl (Nat.le_of_ble_eq_true rfl) ?_
    exact jr_iret F dX3_longest_54 (pI_of (by unfold mosw isMis; (repeat' split) <;> first | rfl | (exfalso; omega) | omega) rfl)
  · refine jr_tsIn (tgt := 55) F (4) dX3_longest_6 c6 (by omega) (by omega) rfl (by decide) (by omega) ?_
    refine jr_aload_n F dX3_longest_55 rfl ?_
    refine jr_iload_n F dX3_longest_56 rfl ?_
    refine jr_iload_n F dX3_longest_57 rfl ?_
    refine jr_vI F dX3_longest_58 cv_X3_63 (c_X3_counted (by omega)) (Nat.le_of_ble_eq_true rfl) rfl rfl rfl rfl (Nat.le_of_ble_eq_true rfl) (Nat.le_of_ble_eq_true rfl) rfl (Nat.le_of_ble_eq_true rfl) ?_
    exact jr_iret F dX3_longest_61 (pI_of (by unfold mosw isMis; (repeat' split) <;> first | rfl | (exfalso; omega) | omega) rfl)
  · refine jr_tsIn (tgt := 36) F (5) dX3_longest_6 c6 (by omega) (by omega) rfl (by decide) (by omega) ?_
    refine jr_bipush F dX3_longest_36 (by decide) ?_
    exact jr_iret F dX3_longest_38 (pI_of (by unfold mosw isMis; (repeat' split) <;> first | rfl | (exfalso; omega) | omega) rfl)
  · refine jr_tsIn (tgt := 39) F (6) dX3_longest_6 c6 (by omega) (by omega) rfl (by decide) (by omega) ?_
    refine jr_aload_n F dX3_longest_39 rfl ?_
    refine jr_iload_n F dX3_longest_40 rfl ?_
    refine jr_iload_n F dX3_longest_41 rfl ?_
    refine jr_vI F dX3_longest_42 cv_X3_63 (c_X3_counted (by omega)) (Nat.le_of_ble_eq_true rfl) rfl rfl rfl rfl (Nat.le_of_ble_eq_true rfl) (Nat.le_of_ble_eq_true rfl) rfl (Nat.le_of_ble_eq_true rfl) ?_
    refine jr_aload_n F dX3_longest_45 rfl ?_
    refine jr_iload_n F dX3_longest_46 rfl ?_
    refine jr_iload_n F dX3_longest_47 rfl ?_
    refine jr_vI F dX3_longest_48 cv_X3_66 (c_X3_otherReading (by omega) (by omega) (by omega) (by omega)) (Nat.le_of_ble_eq_true rfl) rfl rfl rfl rfl (Nat.le_of_ble_eq_true rfl) (Nat.le_of_ble_eq_true rfl) rfl (Nat.le_of_ble_eq_true rfl) ?_
    refine jr_sI F dX3_longest_51 cs_X3_58 (c_J_max (by omega) (by omega)) rfl (Nat.le_of_ble_eq_true rfl) (Nat.le_of_ble_eq_true rfl) rfl (Nat.le_of_ble_eq_true rfl) ?_
    exact jr_iret F dX3_longest_54 (pI_of (by unfold mosw isMis; (repeat' split) <;> first | rfl | (exfalso; omega) | omega) rfl)
  · refine jr_tsOut (tgt := 55) F dX3_longest_6 c6 (by decide) (by omega) ?_
    refine jr_aload_n F dX3_longest_55 rfl ?_
    refine jr_iload_n F dX3_longest_56 rfl ?_
    refine jr_iload_n F dX3_longest_57 rfl ?_
    refine jr_vI F dX3_longest_58 cv_X3_63 (c_X3_counted (by omega)) (Nat.le_of_ble_eq_true rfl) rfl rfl rfl rfl (Nat.le_of_ble_eq_true rfl) (Nat.le_of_ble_eq_true rfl) rfl (Nat.le_of_ble_eq_true rfl) ?_
    exact jr_iret F dX3_longest_61 (pI_of (by unfold mosw isMis; (repeat' split) <;> first | rfl | (exfalso; omega) | omega) rfl)

set_option maxRecDepth 100000 in
set_option maxHeartbeats 4000000 in
theorem c_X3_isMisread {B : Bs} {w : Wd} {r : Int} (h : inR (r * 6 + 1)) : Sp (GX B) 2 yX3_isMisread cX3_isMisread 2 (Option.some FieldType.boolean) [.ref (ga (GX B) (1)), iv (r)] w (pI w (bi (isMis (fa w r 1)))) := by
  refine Sp.of (by decide) (Nat.le_of_ble_eq_true rfl) (fun X F => ?_)
  refine jr_ok (fun hO => ?_)
  have q1 := fa_R hO r 1
  show Jw (GX B) X _ 0 [some (.ref (ga (GX B) (1))), some (iv (r))] [] w
  refine jr_aload_n F dX3_isMisread_0 rfl ?_
  refine jr_iload_n F dX3_isMisread_1 rfl ?_
  refine jr_iconst F dX3_isMisread_2 ?_
  refine jr_vI F dX3_isMisread_3 cv_X3_44 (c_X3_fact (by omega)) (Nat.le_of_ble_eq_true rfl) rfl rfl rfl rfl (Nat.le_of_ble_eq_true rfl) (Nat.le_of_ble_eq_true rfl) rfl (Nat.le_of_ble_eq_true rfl) ?_
  refine jr_iconst F dX3_isMisread_6 ?_
  refine jr_sI F dX3_isMisread_7 cs_X3_32 (c_X3_isOf (by omega) (by omega)) rfl (Nat.le_of_ble_eq_true rfl) (Nat.le_of_ble_eq_true rfl) rfl (Nat.le_of_ble_eq_true rfl) ?_
  exact jr_zret F dX3_isMisread_10 (pI_of (bi_c (by unfold isMis; omega)) rfl) (bi_01 _)

theorem lea_R {w : Wd} {r c : Int} (hs : smR w r) (hc : 0 ≤ c ∧ c ≤ 1) : -61 ≤ leaw w r c ∧ leaw w r c ≤ 61 := by
  obtain ⟨s0, s1, sf⟩ := hs
  have q1 := sf 1 (by omega) (by omega)
  have q2 := sf 2 (by omega) (by omega)
  have q3 := sf 3 (by omega) (by omega)
  unfold leaw othw
  (repeat' split) <;> omega
theorem mos_R {w : Wd} {r c : Int} (hs : smR w r) (hc : 0 ≤ c ∧ c ≤ 1) : -61 ≤ mosw w r c ∧ mosw w r c ≤ 61 := by
  obtain ⟨s0, s1, sf⟩ := hs
  have q1 := sf 1 (by omega) (by omega)
  have q2 := sf 2 (by omega) (by omega)
  have q3 := sf 3 (by omega) (by omega)
  unfold mosw othw
  (repeat' split) <;> omega
noncomputable def lenw (w : Wd) (r c : Int) : Int := @ite _ (isMis (fa w r 1)) (Classical.propDecidable _) (min (mosw w r c - leaw w r c) 1 + 1) (mosw w r c - leaw w r c + 1)
def fitw (w : Wd) (p c z : Int) : Prop := (isMis (fa w p 1) ∧ (z = leaw w p c ∨ z = mosw w p c)) ∨ (¬ isMis (fa w p 1) ∧ leaw w p c ≤ z ∧ z ≤ mosw w p c)

set_option maxRecDepth 100000 in
set_option maxHeartbeats 4000000 in
theorem c_X3_lengths {B : Bs} {w : Wd} {r c : Int} (hs : smR w r) (hc : 0 ≤ c ∧ c ≤ 1) : Sp (GX B) 3 yX3_lengths cX3_lengths 4 (Option.some FieldType.int) [.ref (ga (GX B) (1)), iv (r), iv (c)] w (pI w (lenw w r c)) := by
  refine Sp.of (by decide) (Nat.le_of_ble_eq_true rfl) (fun X F => ?_)
  have l1 := lea_R hs (c := c) hc
  have l2 := mos_R hs (c := c) hc
  have s0 := hs.1
  have s1 := hs.2.1
  show Jw (GX B) X _ 0 [some (.ref (ga (GX B) (1))), some (iv (r)), some (iv (c))] [] w
  refine jr_aload_n F dX3_lengths_0 rfl ?_
  refine jr_iload_n F dX3_lengths_1 rfl ?_
  refine jr_iload_n F dX3_lengths_2 rfl ?_
  refine jr_vI F dX3_lengths_3 cv_X3_72 (c_X3_longest (by assumption) (by omega)) (Nat.le_of_ble_eq_true rfl) rfl rfl rfl rfl (Nat.le_of_ble_eq_true rfl) (Nat.le_of_ble_eq_true rfl) rfl (Nat.le_of_ble_eq_true rfl) ?_
  refine jr_aload_n F dX3_lengths_6 rfl ?_
  refine jr_iload_n F dX3_lengths_7 rfl ?_
  refine jr_iload_n F dX3_lengths_8 rfl ?_
  refine jr_vI F dX3_lengths_9 cv_X3_75 (c_X3_shortest (by assumption) (by omega)) (Nat.le_of_ble_eq_true rfl) rfl rfl rfl rfl (Nat.le_of_ble_eq_true rfl) (Nat.le_of_ble_eq_true rfl) rfl (Nat.le_of_ble_eq_true rfl) ?_
  refine jr_isub F dX3_lengths_12 ?_
  refine jr_istore_n F dX3_lengths_13 (Nat.le_of_ble_eq_true rfl) rfl ?_
  refine jr_aload_n F dX3_lengths_14 rfl ?_
  refine jr_iload_n F dX3_lengths_15 rfl ?_
  refine jr_vI F dX3_lengths_16 cv_X3_78 (c_X3_isMisread (by omega)) (Nat.le_of_ble_eq_true rfl) rfl rfl rfl rfl (Nat.le_of_ble_eq_true rfl) (Nat.le_of_ble_eq_true rfl) rfl (Nat.le_of_ble_eq_true rfl) ?_
  refine jr_ifeq_b (tgt := 32) F dX3_lengths_19 (by decide) (fun c19 => ?_) (fun c19 => ?_)
  · skip
    refine jr_iload_n F dX3_lengths_32 rfl ?_
    refine jr_iconst F dX3_lengths_33 ?_
    refine jr_iadd F dX3_lengths_34 ?_
    exact jr_iret F dX3_lengths_35 (pI_of (by unfold lenw; first | rw [if_pos (by assumption)] | rw [if_neg (by assumption)]) rfl)
  · skip
    refine jr_iload_n F dX3_lengths_22 rfl ?_
    refine jr_iconst F dX3_lengths_23 ?_
    refine jr_sI F dX3_lengths_24 cs_X3_69 (c_J_min (by omega) (by omega)) rfl (Nat.le_of_ble_eq_true rfl) (Nat.le_of_ble_eq_true rfl) rfl (Nat.le_of_ble_eq_true rfl) ?_
    refine jr_iconst F dX3_lengths_27 ?_
    refine jr_iadd F dX3_lengths_28 ?_
    refine jr_goto (tgt := 35) F dX3_lengths_29 (by decide) ?_
    exact jr_iret F dX3_lengths_35 (pI_of (by unfold lenw; first | rw [if_pos (by assumption)] | rw [if_neg (by assumption)]) rfl)

set_option maxRecDepth 100000 in
set_option maxHeartbeats 4000000 in
theorem c_X3_isToldBehind {B : Bs} {w : Wd} {r p c : Int} (hs : smR w p) (hr : smR w r) (hc : 0 ≤ c ∧ c ≤ 1) (t1 : -2000 ≤ td w r ∧ td w r ≤ 2000) (t2 : -2000 ≤ td w p ∧ td w p ≤ 2000) : Sp (GX B) 3 yX3_isToldBehind cX3_isToldBehind 7 (Option.some FieldType.boolean) [.ref (ga (GX B) (1)), iv (r), iv (p), iv (c)] w (pI w (bi (fitw w p c (td w r - td w p + lapw w r)))) := by
  refine Sp.of (by decide) (Nat.le_of_ble_eq_true rfl) (fun X F => ?_)
  have l1 := lea_R hs (c := c) hc
  have l2 := mos_R hs (c := c) hc
  have s0 := hs.1
  have s1 := hs.2.1
  have r0 := hr.1
  have r1 := hr.2.1
  have q3 := hr.2.2 3 (by omega) (by omega)
  have lp : -1 ≤ lapw w r ∧ lapw w r ≤ 60 := by unfold lapw; split <;> omega
  show Jw (GX B) X _ 0 [some (.ref (ga (GX B) (1))), some (iv (r)), some (iv (p)), some (iv (c))] [] w
  refine jr_aload_n F dX3_isToldBehind_0 rfl ?_
  refine jr_iload_n F dX3_isToldBehind_1 rfl ?_
  refine jr_vI F dX3_isToldBehind_2 cv_X3_48 (c_X3_toldYear (by omega)) (Nat.le_of_ble_eq_true rfl) rfl rfl rfl rfl (Nat.le_of_ble_eq_true rfl) (Nat.le_of_ble_eq_true rfl) rfl (Nat.le_of_ble_eq_true rfl) ?_
  refine jr_aload_n F dX3_isToldBehind_5 rfl ?_
  refine jr_iload_n F dX3_isToldBehind_6 rfl ?_
  refine jr_vI F dX3_isToldBehind_7 cv_X3_48 (c_X3_toldYear (by omega)) (Nat.le_of_ble_eq_true rfl) rfl rfl rfl rfl (Nat.le_of_ble_eq_true rfl) (Nat.le_of_ble_eq_true rfl) rfl (Nat.le_of_ble_eq_true rfl) ?_
  refine jr_isub F dX3_isToldBehind_10 ?_
  refine jr_aload_n F dX3_isToldBehind_11 rfl ?_
  refine jr_iload_n F dX3_isToldBehind_12 rfl ?_
  refine jr_vI F dX3_isToldBehind_13 cv_X3_81 (c_X3_overlap (by omega) (by omega)) (Nat.le_of_ble_eq_true rfl) rfl rfl rfl rfl (Nat.le_of_ble_eq_true rfl) (Nat.le_of_ble_eq_true rfl) rfl (Nat.le_of_ble_eq_true rfl) ?_
  refine jr_iadd F dX3_isToldBehind_16 ?_
  refine jr_istore F dX3_isToldBehind_17 (Nat.le_of_ble_eq_true rfl) rfl ?_
  refine jr_aload_n F dX3_isToldBehind_19 rfl ?_
  refine jr_iload_n F dX3_isToldBehind_20 rfl ?_
  refine jr_iload_n F dX3_isToldBehind_21 rfl ?_
  refine jr_vI F dX3_isToldBehind_22 cv_X3_75 (c_X3_shortest (by assumption) (by omega)) (Nat.le_of_ble_eq_true rfl) rfl rfl rfl rfl (Nat.le_of_ble_eq_true rfl) (Nat.le_of_ble_eq_true rfl) rfl (Nat.le_of_ble_eq_true rfl) ?_
  refine jr_istore F dX3_isToldBehind_25 (Nat.le_of_ble_eq_true rfl) rfl ?_
  refine jr_aload_n F dX3_isToldBehind_27 rfl ?_
  refine jr_iload_n F dX3_isToldBehind_28 rfl ?_
  refine jr_iload_n F dX3_isToldBehind_29 rfl ?_
  refine jr_vI F dX3_isToldBehind_30 cv_X3_72 (c_X3_longest (by assumption) (by omega)) (Nat.le_of_ble_eq_true rfl) rfl rfl rfl rfl (Nat.le_of_ble_eq_true rfl) (Nat.le_of_ble_eq_true rfl) rfl (Nat.le_of_ble_eq_true rfl) ?_
  refine jr_istore F dX3_isToldBehind_33 (Nat.le_of_ble_eq_true rfl) rfl ?_
  refine jr_aload_n F dX3_isToldBehind_35 rfl ?_
  refine jr_iload_n F dX3_isToldBehind_36 rfl ?_
  refine jr_vI F dX3_isToldBehind_37 cv_X3_78 (c_X3_isMisread (by omega)) (Nat.le_of_ble_eq_true rfl) rfl rfl rfl rfl (Nat.le_of_ble_eq_true rfl) (Nat.le_of_ble_eq_true rfl) rfl (Nat.le_of_ble_eq_true rfl) ?_
  refine jr_ifeq_b (tgt := 63) F dX3_isToldBehind_40 (by decide) (fun c40 => ?_) (fun c40 => ?_)
  · skip
    refine jr_iload F dX3_isToldBehind_63 rfl ?_
    refine jr_iload F dX3_isToldBehind_65 rfl ?_
    refine jr_iload F dX3_isToldBehind_67 rfl ?_
    refine jr_nI F dX3_isToldBehind_69 cn_X3_84 (c_X7_within (by omega) (by omega) (by omega)) rfl (Nat.le_of_ble_eq_true rfl) (Nat.le_of_ble_eq_true rfl) rfl (Nat.le_of_ble_eq_true rfl) ?_
    exact jr_zret F dX3_isToldBehind_72 (pI_of (bi_c (by unfold fitw; first | (simp only [c40, true_and, not_true_eq_false, false_and, or_false]; omega) | (simp only [c40, not_false_eq_true, true_and, false_and, false_or]))) rfl) (bi_01 _)
  · skip
    refine jr_iload F dX3_isToldBehind_43 rfl ?_
    refine jr_iload F dX3_isToldBehind_45 rfl ?_
    refine jr_icmp_eq (tgt := 57) F dX3_isToldBehind_47 (by decide) (fun c47 => ?_) (fun c47 => ?_) (by omega) (by omega)
    · skip
      refine jr_iconst F dX3_isToldBehind_57 ?_
      refine jr_goto (tgt := 62) F dX3_isToldBehind_58 (by decide) ?_
      exact jr_zret F dX3_isToldBehind_62 (pI_of (bi_t (by unfold fitw; first | (simp only [c40, true_and, not_true_eq_false, false_and, or_false]; omega) | (simp only [c40, not_false_eq_true, true_and, false_and, false_or]))).symm rfl) (by omega)
    · skip
      refine jr_iload F dX3_isToldBehind_50 rfl ?_
      refine jr_iload F dX3_isToldBehind_52 rfl ?_
      refine jr_icmp_ne (tgt := 61) F dX3_isToldBehind_54 (by decide) (fun c54 => ?_) (fun c54 => ?_) (by omega) (by omega)
      · skip
        refine jr_iconst F dX3_isToldBehind_61 ?_
        exact jr_zret F dX3_isToldBehind_62 (pI_of (bi_f (by unfold fitw; first | (simp only [c40, true_and, not_true_eq_false, false_and, or_false]; omega) | (simp only [c40, not_false_eq_true, true_and, false_and, false_or]))).symm rfl) (by omega)
      · skip
        refine jr_iconst F dX3_isToldBehind_57 ?_
        refine jr_goto (tgt := 62) F dX3_isToldBehind_58 (by decide) ?_
        exact jr_zret F dX3_isToldBehind_62 (pI_of (bi_t (by unfold fitw; first | (simp only [c40, true_and, not_true_eq_false, false_and, or_false]; omega) | (simp only [c40, not_false_eq_true, true_and, false_and, false_or]))).symm rfl) (by omega)

