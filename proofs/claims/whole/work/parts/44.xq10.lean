/-- the world behind a call that may refuse: an answer below 0 changes nothing -/
def accW (r : Int) (a b : Wd) : Wd := if 0 ≤ r then a else b
theorem accW_y {r : Int} {a b : Wd} (h : 0 ≤ r) : accW r a b = a := if_pos h
theorem accW_n {r : Int} {a b : Wd} (h : r < 0) : accW r a b = b := if_neg (by omega)
theorem pA_y {a b u : Wd} {r x : Int} (h : x = r) (h0 : 0 ≤ x) (hu : a = u) : pI (accW r a b) r (some (iv x)) u := by subst h; subst hu; rw [accW_y h0]; exact ⟨rfl, rfl⟩
theorem pA_n {a b u : Wd} {r x : Int} (h : x = r) (h0 : x < 0) (hu : b = u) : pI (accW r a b) r (some (iv x)) u := by subst h; subst hu; rw [accW_n h0]; exact ⟨rfl, rfl⟩
noncomputable def reiw (w : Wd) (l k n m e : Int) : Int := @ite _ ((0 ≤ l ∧ l ≤ 4) ∧ (0 ≤ k ∧ k ≤ 6) ∧ (0 ≤ e ∧ e ≤ 9) ∧ (1 ≤ n ∧ n ≤ 60) ∧ (0 ≤ m ∧ (k = 1 → m ≤ n) ∧ m ≤ 60)) (Classical.propDecidable _) (@ite _ (¬ w 4 l = -1 ∧ ¬ knw w (w 4 l) e) (Classical.propDecidable _) (-102) (if k = 1 ∧ w 4 l = -1 then -103 else @ite _ (w 1 3 < 10 ∧ ¬ (isMis k ∧ 3 ≤ w 1 4)) (Classical.propDecidable _) (w 1 3) (-104))) (-102)
noncomputable def numw (w : Wd) (r n : Int) : Int := if 0 ≤ r ∧ r < w 1 3 then (if (1 ≤ n ∧ n ≤ 60) ∧ lapw w r ≤ n then fa w r 2 else -102) else -101
def pairw (w : Wd) (a b : Int) : Prop := (0 ≤ a ∧ a < w 1 3) ∧ (0 ≤ b ∧ b < w 1 3) ∧ ¬ a = b
noncomputable def tiew (w : Wd) (a x b y s e : Int) : Int := @ite _ (pairw w a b) (Classical.propDecidable _) (if (1 ≤ x ∧ x ≤ 99) ∧ (1 ≤ y ∧ y ≤ 99) ∧ (0 ≤ s ∧ s ≤ 20) ∧ (0 ≤ e ∧ e ≤ 9) then (if w 5 3 < 8 then w 5 3 else -104) else -102) (-101)
noncomputable def letw (w : Wd) (a x b y e : Int) : Int := @ite _ (pairw w a b) (Classical.propDecidable _) (if (1 ≤ x ∧ x ≤ 99) ∧ (1 ≤ y ∧ y ≤ 99) ∧ (0 ≤ e ∧ e ≤ 9) then (if w 5 3 < 8 then w 5 3 else -104) else -102) (-101)
noncomputable def wisw (w : Wd) (a x b y s : Int) : Int := @ite _ (pairw w a b) (Classical.propDecidable _) (if (1 ≤ x ∧ x ≤ 99) ∧ (1 ≤ y ∧ y ≤ 99) ∧ (0 ≤ s ∧ s ≤ 20) then (if w 8 3 < 6 then w 8 3 else -104) else -102) (-101)
def skqw (w : Wd) (a x p q r e : Int) : Int := if 0 ≤ a ∧ a < w 1 3 then (if (1 ≤ x ∧ x ≤ 99) ∧ (-2000 ≤ p ∧ p ≤ 2000) ∧ (-2000 ≤ q ∧ q ≤ 2000) ∧ (-2000 ≤ r ∧ r ≤ 2000) ∧ (0 ≤ e ∧ e ≤ 9) then (if w 5 3 < 8 ∧ w 5 4 < 2 then w 5 3 else -104) else -102) else -101
def rinw (w : Wd) (a x p e : Int) : Int := if 0 ≤ a ∧ a < w 1 3 then (if (1 ≤ x ∧ x ≤ 99) ∧ (-2000 ≤ p ∧ p ≤ 2000) ∧ (0 ≤ e ∧ e ≤ 9) then (if w 5 3 < 8 then w 5 3 else -104) else -102) else -101
def undw (w : Wd) : Int := if 0 < w 5 3 then w 5 3 - 1 else -103
noncomputable def undW (w : Wd) : Wd := up (up w 5 3 (w 5 3 - 1)) 5 4 (w 5 4 - bi (tfa w (w 5 3 - 1) 0 = 1))
def lesw (w : Wd) (z : Int) : Int := if lin z 8 0 0 = -102 then -102 else if 60 - w 18 1 < lin z 8 0 0 then -104 else w 18 1 + lin z 8 0 0
def lesW (w : Wd) (z : Int) : Wd := up (wrB w z (lin z 8 0 0).toNat) 18 1 (w 18 1 + lin z 8 0 0)
theorem lin_R (z : Int) : ∀ (f : Nat) (p t : Int), 0 ≤ t → lin z f p t = -102 ∨ (t ≤ lin z f p t ∧ lin z f p t ≤ t + f)
  | 0, p, t, h => by right; unfold lin; omega
  | f + 1, p, t, h => by
    unfold lin
    split
    · exact Or.inl rfl
    · by_cases e : byt z p = 0
      · rw [if_pos e]
        rcases lin_R z f (p + 1) (t + 0) (by omega) with q | q
        · exact Or.inl q
        · right; omega
      · rw [if_neg e]
        rcases lin_R z f (p + 1) (t + 1) (by omega) with q | q
        · exact Or.inl q
        · right; omega
def txn (w : Wd) (s : Int) : Int := if s = 0 then w 11 2 else w 14 2
noncomputable def texw (w : Wd) (s : Int) : Int := @ite _ (s = 0 ∨ s = 1) (Classical.propDecidable _) (@ite _ (txw w) (Classical.propDecidable _) (if 6 ≤ txn w s then -104 else txn w s + 1) (-103)) (-101)
def lrn (w : Wd) (s : Int) : Wd := if s = 0 then up (up (cpB w 12 (w 11 2 * 60) (w 18 1).toNat) 13 (w 11 2) (w 18 1)) 11 2 (w 11 2 + 1) else up (up (cpB w 15 (w 14 2 * 60) (w 18 1).toNat) 16 (w 14 2) (w 18 1)) 14 2 (w 14 2 + 1)
noncomputable def texW (w : Wd) (s : Int) : Wd := if s = 0 ∨ s = 1 then accW (texw w s) (up (lrn (faw w) s) 18 1 0) (faw w) else w
def strw (w : Wd) (s : Int) : Int := if s = 0 ∨ s = 1 then (if 0 < txn w s then txn w s - 1 else -103) else -101
def strW (w : Wd) (s : Int) : Wd := if s = 0 then up w 11 2 (w 11 2 - 1) else up w 14 2 (w 14 2 - 1)
def couw (w : Wd) (k : Int) : Int := if k = 0 then w 1 3 else if k = 1 then w 5 3 else if k = 2 then w 11 2 else if k = 3 then w 14 2 else if k = 4 then w 18 1 else if k = 5 then w 8 3 else if k = 6 then w 0 8 else -102

set_option maxRecDepth 100000 in
set_option maxHeartbeats 4000000 in
theorem c_X7_reign {B : Bs} {w : Wd} {l k n m e : Int} (h3 : 0 ≤ w 1 3 ∧ w 1 3 ≤ 10) (h4 : 0 ≤ w 1 4 ∧ w 1 4 ≤ 10) (h5 : ∀ j : Int, 0 ≤ j → j < 5 → -1 ≤ w 4 j ∧ w 4 j < w 1 3) (hl : inR l) (hk : inR k) (hn : inR n) (hm : inR m) (he : inR e) : Sp (GX B) 3 yX7_reign cX7_reign 7 (Option.some FieldType.int) [.ref (ga (GX B) (0)), iv (l), iv (k), iv (n), iv (m), iv (e)] w (pI (accW (reiw w l k n m e) (addRw w l k n m e) w) (reiw w l k n m e)) := by
  refine Sp.of (by decide) (Nat.le_of_ble_eq_true rfl) (fun X F => ?_)
  show Jw (GX B) X _ 0 [some (.ref (ga (GX B) (0))), some (iv (l)), some (iv (k)), some (iv (n)), some (iv (m)), some (iv (e))] [] w
  have J66 : ((0 ≤ l ∧ l ≤ 4) ∧ (0 ≤ k ∧ k ≤ 6) ∧ (1 ≤ n ∧ n ≤ 60) ∧ (0 ≤ m ∧ (k = 1 → m ≤ n) ∧ m ≤ 60) ∧ 0 ≤ e ∧ e ≤ 9) → Jw (GX B) X (pI (accW (reiw w l k n m e) (addRw w l k n m e) w) (reiw w l k n m e)) 66 [some (.ref (ga (GX B) 0)), some (iv l), some (iv k), some (iv n), some (iv m), some (iv e)] [] w := by
    intro  hA
    have w4 := h5 l (by omega) (by omega)
    refine jr_aload_n F dX7_reign_66 rfl ?_
    refine jr_getR (t := 1) F dX7_reign_67 fg_X7_10 (Nat.le_of_ble_eq_true rfl) rfl rfl ?_
    refine jr_iload_n F dX7_reign_70 rfl ?_
    refine jr_vI F dX7_reign_71 cv_X7_69 (c_X3_lastOf (by omega)) (Nat.le_of_ble_eq_true rfl) rfl rfl rfl rfl (Nat.le_of_ble_eq_true rfl) (Nat.le_of_ble_eq_true rfl) rfl (Nat.le_of_ble_eq_true rfl) ?_
    refine jr_ti (b := (w 4 l)) (rd_in (by omega) (by omega)) ?_
    refine jr_istore F dX7_reign_74 (Nat.le_of_ble_eq_true rfl) rfl ?_
    refine jr_iload F dX7_reign_76 rfl ?_
    refine jr_iconst F dX7_reign_78 ?_
    refine jr_icmp_eq (tgt := 99) F dX7_reign_79 (by decide) (fun c79 => ?_) (fun c79 => ?_) (by omega) (by omega)
    · skip
      have hB : ¬ (¬ w 4 l = -1 ∧ ¬ knw w (w 4 l) e) := by unfold knw; omega
      refine jr_iload_n F dX7_reign_99 rfl ?_
      refine jr_iconst F dX7_reign_100 ?_
      refine jr_icmp_ne (tgt := 113) F dX7_reign_101 (by decide) (fun c101 => ?_) (fun c101 => ?_) (by omega) (by omega)
      · skip
        have hC : ¬ (k = 1 ∧ w 4 l = -1) := by omega
        refine jr_aload_n F dX7_reign_113 rfl ?_
        refine jr_getR (t := 1) F dX7_reign_114 fg_X7_10 (Nat.le_of_ble_eq_true rfl) rfl rfl ?_
        refine jr_iload_n F dX7_reign_117 rfl ?_
        refine jr_vI F dX7_reign_118 cv_X7_77 (c_X3_hasRoomFor (by omega)) (Nat.le_of_ble_eq_true rfl) rfl rfl rfl rfl (Nat.le_of_ble_eq_true rfl) (Nat.le_of_ble_eq_true rfl) rfl (Nat.le_of_ble_eq_true rfl) ?_
        refine jr_ifeq_b (tgt := 141) F dX7_reign_121 (by decide) (fun c121 => ?_) (fun c121 => ?_)
        · skip
          refine jr_bipush F dX7_reign_141 (by decide) ?_
          first | exact jr_iret F dX7_reign_143 (pA_n (by unfold reiw; rw [if_pos (by omega), if_neg hB, if_neg hC, if_neg c121]) (by omega) rfl) | exact jr_iret F dX7_reign_143 (pA_y (by unfold reiw; rw [if_pos (by omega), if_neg hB, if_neg hC, if_pos c121]) (by omega) rfl)
        · skip
          refine jr_aload_n F dX7_reign_124 rfl ?_
          refine jr_getR (t := 1) F dX7_reign_125 fg_X7_10 (Nat.le_of_ble_eq_true rfl) rfl rfl ?_
          refine jr_iload_n F dX7_reign_128 rfl ?_
          refine jr_iload_n F dX7_reign_129 rfl ?_
          refine jr_iload_n F dX7_reign_130 rfl ?_
          refine jr_iload F dX7_reign_131 rfl ?_
          refine jr_iload F dX7_reign_133 rfl ?_
          refine jr_vIx F dX7_reign_135 cv_X7_81 (c_X3_add (by omega) (by omega) (by omega) (by omega) (by omega) (by omega) (by omega) (by omega)) (Nat.le_of_ble_eq_true rfl) rfl rfl rfl rfl (Nat.le_of_ble_eq_true rfl) (Nat.le_of_ble_eq_true rfl) rfl (Nat.le_of_ble_eq_true rfl) (fun w135 e135 => ?_)
          refine jr_goto (tgt := 143) F dX7_reign_138 (by decide) ?_
          first | exact jr_iret F dX7_reign_143 (pA_n (by unfold reiw; rw [if_pos (by omega), if_neg hB, if_neg hC, if_neg c121]) (by omega) (by subst e135; first | rfl | omega)) | exact jr_iret F dX7_reign_143 (pA_y (by unfold reiw; rw [if_pos (by omega), if_neg hB, if_neg hC, if_pos c121]) (by omega) (by subst e135; first | rfl | omega))
      · skip
        refine jr_iload F dX7_reign_104 rfl ?_
        refine jr_iconst F dX7_reign_106 ?_
        refine jr_icmp_ne (tgt := 113) F dX7_reign_107 (by decide) (fun c107 => ?_) (fun c107 => ?_) (by omega) (by omega)
        · skip
          have hC : ¬ (k = 1 ∧ w 4 l = -1) := by omega
          refine jr_aload_n F dX7_reign_113 rfl ?_
          refine jr_getR (t := 1) F dX7_reign_114 fg_X7_10 (Nat.le_of_ble_eq_true rfl) rfl rfl ?_
          refine jr_iload_n F dX7_reign_117 rfl ?_
          refine jr_vI F dX7_reign_118 cv_X7_77 (c_X3_hasRoomFor (by omega)) (Nat.le_of_ble_eq_true rfl) rfl rfl rfl rfl (Nat.le_of_ble_eq_true rfl) (Nat.le_of_ble_eq_true rfl) rfl (Nat.le_of_ble_eq_true rfl) ?_
          refine jr_ifeq_b (tgt := 141) F dX7_reign_121 (by decide) (fun c121 => ?_) (fun c121 => ?_)
          · skip
            refine jr_bipush F dX7_reign_141 (by decide) ?_
            first | exact jr_iret F dX7_reign_143 (pA_n (by unfold reiw; rw [if_pos (by omega), if_neg hB, if_neg hC, if_neg c121]) (by omega) rfl) | exact jr_iret F dX7_reign_143 (pA_y (by unfold reiw; rw [if_pos (by omega), if_neg hB, if_neg hC, if_pos c121]) (by omega) rfl)
          · skip
            refine jr_aload_n F dX7_reign_124 rfl ?_
            refine jr_getR (t := 1) F dX7_reign_125 fg_X7_10 (Nat.le_of_ble_eq_true rfl) rfl rfl ?_
            refine jr_iload_n F dX7_reign_128 rfl ?_
            refine jr_iload_n F dX7_reign_129 rfl ?_
            refine jr_iload_n F dX7_reign_130 rfl ?_
            refine jr_iload F dX7_reign_131 rfl ?_
            refine jr_iload F dX7_reign_133 rfl ?_
            refine jr_vIx F dX7_reign_135 cv_X7_81 (c_X3_add (by omega) (by omega) (by omega) (by omega) (by omega) (by omega) (by omega) (by omega)) (Nat.le_of_ble_eq_true rfl) rfl rfl rfl rfl (Nat.le_of_ble_eq_true rfl) (Nat.le_of_ble_eq_true rfl) rfl (Nat.le_of_ble_eq_true rfl) (fun w135_1 e135_1 => ?_)
            refine jr_goto (tgt := 143) F dX7_reign_138 (by decide) ?_
            first | exact jr_iret F dX7_reign_143 (pA_n (by unfold reiw; rw [if_pos (by omega), if_neg hB, if_neg hC, if_neg c121]) (by omega) (by subst e135_1; first | rfl | omega)) | exact jr_iret F dX7_reign_143 (pA_y (by unfold reiw; rw [if_pos (by omega), if_neg hB, if_neg hC, if_pos c121]) (by omega) (by subst e135_1; first | rfl | omega))
        · skip
          refine jr_bipush F dX7_reign_110 (by decide) ?_
          exact jr_iret F dX7_reign_112 (pA_n (by unfold reiw; rw [if_pos (by omega), if_neg hB, if_pos (by omega)]) (by omega) rfl)
    · skip
      refine jr_aload_n F dX7_reign_82 rfl ?_
      refine jr_getR (t := 1) F dX7_reign_83 fg_X7_10 (Nat.le_of_ble_eq_true rfl) rfl rfl ?_
      refine jr_iload F dX7_reign_86 rfl ?_
      refine jr_iload F dX7_reign_88 rfl ?_
      refine jr_vI F dX7_reign_90 cv_X7_73 (c_X3_isKnown (by omega) (by omega) (by omega)) (Nat.le_of_ble_eq_true rfl) rfl rfl rfl rfl (Nat.le_of_ble_eq_true rfl) (Nat.le_of_ble_eq_true rfl) rfl (Nat.le_of_ble_eq_true rfl) ?_
      refine jr_ifne_b (tgt := 99) F dX7_reign_93 (by decide) (fun c93 => ?_) (fun c93 => ?_)
      · skip
        have hB : ¬ (¬ w 4 l = -1 ∧ ¬ knw w (w 4 l) e) := by unfold knw; omega
        refine jr_iload_n F dX7_reign_99 rfl ?_
        refine jr_iconst F dX7_reign_100 ?_
        refine jr_icmp_ne (tgt := 113) F dX7_reign_101 (by decide) (fun c101 => ?_) (fun c101 => ?_) (by omega) (by omega)
        · skip
          have hC : ¬ (k = 1 ∧ w 4 l = -1) := by omega
          refine jr_aload_n F dX7_reign_113 rfl ?_
          refine jr_getR (t := 1) F dX7_reign_114 fg_X7_10 (Nat.le_of_ble_eq_true rfl) rfl rfl ?_
          refine jr_iload_n F dX7_reign_117 rfl ?_
          refine jr_vI F dX7_reign_118 cv_X7_77 (c_X3_hasRoomFor (by omega)) (Nat.le_of_ble_eq_true rfl) rfl rfl rfl rfl (Nat.le_of_ble_eq_true rfl) (Nat.le_of_ble_eq_true rfl) rfl (Nat.le_of_ble_eq_true rfl) ?_
          refine jr_ifeq_b (tgt := 141) F dX7_reign_121 (by decide) (fun c121 => ?_) (fun c121 => ?_)
          · skip
            refine jr_bipush F dX7_reign_141 (by decide) ?_
            first | exact jr_iret F dX7_reign_143 (pA_n (by unfold reiw; rw [if_pos (by omega), if_neg hB, if_neg hC, if_neg c121]) (by omega) rfl) | exact jr_iret F dX7_reign_143 (pA_y (by unfold reiw; rw [if_pos (by omega), if_neg hB, if_neg hC, if_pos c121]) (by omega) rfl)
          · skip
            refine jr_aload_n F dX7_reign_124 rfl ?_
            refine jr_getR (t := 1) F dX7_reign_125 fg_X7_10 (Nat.le_of_ble_eq_true rfl) rfl rfl ?_
            refine jr_iload_n F dX7_reign_128 rfl ?_
            refine jr_iload_n F dX7_reign_129 rfl ?_
            refine jr_iload_n F dX7_reign_130 rfl ?_
            refine jr_iload F dX7_reign_131 rfl ?_
            refine jr_iload F dX7_reign_133 rfl ?_
            refine jr_vIx F dX7_reign_135 cv_X7_81 (c_X3_add (by omega) (by omega) (by omega) (by omega) (by omega) (by omega) (by omega) (by omega)) (Nat.le_of_ble_eq_true rfl) rfl rfl rfl rfl (Nat.le_of_ble_eq_true rfl) (Nat.le_of_ble_eq_true rfl) rfl (Nat.le_of_ble_eq_true rfl) (fun w135_2 e135_2 => ?_)
            refine jr_goto (tgt := 143) F dX7_reign_138 (by decide) ?_
            first | exact jr_iret F dX7_reign_143 (pA_n (by unfold reiw; rw [if_pos (by omega), if_neg hB, if_neg hC, if_neg c121]) (by omega) (by subst e135_2; first | rfl | omega)) | exact jr_iret F dX7_reign_143 (pA_y (by unfold reiw; rw [if_pos (by omega), if_neg hB, if_neg hC, if_pos c121]) (by omega) (by subst e135_2; first | rfl | omega))
        · skip
          refine jr_iload F dX7_reign_104 rfl ?_
          refine jr_iconst F dX7_reign_106 ?_
          refine jr_icmp_ne (tgt := 113) F dX7_reign_107 (by decide) (fun c107 => ?_) (fun c107 => ?_) (by omega) (by omega)
          · skip
            have hC : ¬ (k = 1 ∧ w 4 l = -1) := by omega
            refine jr_aload_n F dX7_reign_113 rfl ?_
            refine jr_getR (t := 1) F dX7_reign_114 fg_X7_10 (Nat.le_of_ble_eq_true rfl) rfl rfl ?_
            refine jr_iload_n F dX7_reign_117 rfl ?_
            refine jr_vI F dX7_reign_118 cv_X7_77 (c_X3_hasRoomFor (by omega)) (Nat.le_of_ble_eq_true rfl) rfl rfl rfl rfl (Nat.le_of_ble_eq_true rfl) (Nat.le_of_ble_eq_true rfl) rfl (Nat.le_of_ble_eq_true rfl) ?_
            refine jr_ifeq_b (tgt := 141) F dX7_reign_121 (by decide) (fun c121 => ?_) (fun c121 => ?_)
            · skip
              refine jr_bipush F dX7_reign_141 (by decide) ?_
              first | exact jr_iret F dX7_reign_143 (pA_n (by unfold reiw; rw [if_pos (by omega), if_neg hB, if_neg hC, if_neg c121]) (by omega) rfl) | exact jr_iret F dX7_reign_143 (pA_y (by unfold reiw; rw [if_pos (by omega), if_neg hB, if_neg hC, if_pos c121]) (by omega) rfl)
            · skip
              refine jr_aload_n F dX7_reign_124 rfl ?_
              refine jr_getR (t := 1) F dX7_reign_125 fg_X7_10 (Nat.le_of_ble_eq_true rfl) rfl rfl ?_
              refine jr_iload_n F dX7_reign_128 rfl ?_
              refine jr_iload_n F dX7_reign_129 rfl ?_
              refine jr_iload_n F dX7_reign_130 rfl ?_
              refine jr_iload F dX7_reign_131 rfl ?_
              refine jr_iload F dX7_reign_133 rfl ?_
              refine jr_vIx F dX7_reign_135 cv_X7_81 (c_X3_add (by omega) (by omega) (by omega) (by omega) (by omega) (by omega) (by omega) (by omega)) (Nat.le_of_ble_eq_true rfl) rfl rfl rfl rfl (Nat.le_of_ble_eq_true rfl) (Nat.le_of_ble_eq_true rfl) rfl (Nat.le_of_ble_eq_true rfl) (fun w135_3 e135_3 => ?_)
              refine jr_goto (tgt := 143) F dX7_reign_138 (by decide) ?_
              first | exact jr_iret F dX7_reign_143 (pA_n (by unfold reiw; rw [if_pos (by omega), if_neg hB, if_neg hC, if_neg c121]) (by omega) (by subst e135_3; first | rfl | omega)) | exact jr_iret F dX7_reign_143 (pA_y (by unfold reiw; rw [if_pos (by omega), if_neg hB, if_neg hC, if_pos c121]) (by omega) (by subst e135_3; first | rfl | omega))
          · skip
            refine jr_bipush F dX7_reign_110 (by decide) ?_
            exact jr_iret F dX7_reign_112 (pA_n (by unfold reiw; rw [if_pos (by omega), if_neg hB, if_pos (by omega)]) (by omega) rfl)
      · skip
        refine jr_bipush F dX7_reign_96 (by decide) ?_
        exact jr_iret F dX7_reign_98 (pA_n (by unfold reiw knw; rw [if_pos (by omega), if_pos (by omega)]) (by omega) rfl)
  refine jr_iload_n F dX7_reign_0 rfl ?_
  refine jr_iconst F dX7_reign_1 ?_
  refine jr_iconst F dX7_reign_2 ?_
  refine jr_sI F dX7_reign_3 cs_X7_65 (c_X7_within (by omega) (by omega) (by omega)) rfl (Nat.le_of_ble_eq_true rfl) (Nat.le_of_ble_eq_true rfl) rfl (Nat.le_of_ble_eq_true rfl) ?_
  refine jr_ifeq_b (tgt := 30) F dX7_reign_6 (by decide) (fun c6 => ?_) (fun c6 => ?_)
  · skip
    refine jr_bipush F dX7_reign_30 (by decide) ?_
    exact jr_iret F dX7_reign_32 (pA_n (by unfold reiw; rw [if_neg (by omega)]) (by omega) rfl)
  · skip
    refine jr_iload_n F dX7_reign_9 rfl ?_
    refine jr_iconst F dX7_reign_10 ?_
    refine jr_bipush F dX7_reign_11 (by decide) ?_
    refine jr_sI F dX7_reign_13 cs_X7_65 (c_X7_within (by omega) (by omega) (by omega)) rfl (Nat.le_of_ble_eq_true rfl) (Nat.le_of_ble_eq_true rfl) rfl (Nat.le_of_ble_eq_true rfl) ?_
    refine jr_ifeq_b (tgt := 30) F dX7_reign_16 (by decide) (fun c16 => ?_) (fun c16 => ?_)
    · skip
      refine jr_bipush F dX7_reign_30 (by decide) ?_
      exact jr_iret F dX7_reign_32 (pA_n (by unfold reiw; rw [if_neg (by omega)]) (by omega) rfl)
    · skip
      refine jr_iload F dX7_reign_19 rfl ?_
      refine jr_iconst F dX7_reign_21 ?_
      refine jr_bipush F dX7_reign_22 (by decide) ?_
      refine jr_sI F dX7_reign_24 cs_X7_65 (c_X7_within (by omega) (by omega) (by omega)) rfl (Nat.le_of_ble_eq_true rfl) (Nat.le_of_ble_eq_true rfl) rfl (Nat.le_of_ble_eq_true rfl) ?_
      refine jr_ifne_b (tgt := 33) F dX7_reign_27 (by decide) (fun c27 => ?_) (fun c27 => ?_)
      · skip
        refine jr_iload_n F dX7_reign_33 rfl ?_
        refine jr_iconst F dX7_reign_34 ?_
        refine jr_bipush F dX7_reign_35 (by decide) ?_
        refine jr_sI F dX7_reign_37 cs_X7_65 (c_X7_within (by omega) (by omega) (by omega)) rfl (Nat.le_of_ble_eq_true rfl) (Nat.le_of_ble_eq_true rfl) rfl (Nat.le_of_ble_eq_true rfl) ?_
        refine jr_ifeq_b (tgt := 63) F dX7_reign_40 (by decide) (fun c40 => ?_) (fun c40 => ?_)
        · skip
          refine jr_bipush F dX7_reign_63 (by decide) ?_
          exact jr_iret F dX7_reign_65 (pA_n (by unfold reiw; rw [if_neg (by omega)]) (by omega) rfl)
        · skip
          refine jr_iload F dX7_reign_43 rfl ?_
          refine jr_iconst F dX7_reign_45 ?_
          refine jr_iload_n F dX7_reign_46 rfl ?_
          refine jr_iconst F dX7_reign_47 ?_
          refine jr_icmp_ne (tgt := 55) F dX7_reign_48 (by decide) (fun c48 => ?_) (fun c48 => ?_) (by omega) (by omega)
          · skip
            refine jr_bipush F dX7_reign_55 (by decide) ?_
            refine jr_sI F dX7_reign_57 cs_X7_65 (c_X7_within (by omega) (by omega) (by omega)) rfl (Nat.le_of_ble_eq_true rfl) (Nat.le_of_ble_eq_true rfl) rfl (Nat.le_of_ble_eq_true rfl) ?_
            refine jr_ifne_b (tgt := 66) F dX7_reign_60 (by decide) (fun c60 => ?_) (fun c60 => ?_)
            · skip
              exact jr_sub (J66 (by omega)) ⟨rfl, rfl, rfl, rfl, rfl, rfl, trivial⟩
            · skip
              refine jr_bipush F dX7_reign_63 (by decide) ?_
              exact jr_iret F dX7_reign_65 (pA_n (by unfold reiw; rw [if_neg (by omega)]) (by omega) rfl)
          · skip
            refine jr_iload_n F dX7_reign_51 rfl ?_
            refine jr_goto (tgt := 57) F dX7_reign_52 (by decide) ?_
            refine jr_sI F dX7_reign_57 cs_X7_65 (c_X7_within (by omega) (by omega) (by omega)) rfl (Nat.le_of_ble_eq_true rfl) (Nat.le_of_ble_eq_true rfl) rfl (Nat.le_of_ble_eq_true rfl) ?_
            refine jr_ifne_b (tgt := 66) F dX7_reign_60 (by decide) (fun c60 => ?_) (fun c60 => ?_)
            · skip
              exact jr_sub (J66 (by omega)) ⟨rfl, rfl, rfl, rfl, rfl, rfl, trivial⟩
            · skip
              refine jr_bipush F dX7_reign_63 (by decide) ?_
              exact jr_iret F dX7_reign_65 (pA_n (by unfold reiw; rw [if_neg (by omega)]) (by omega) rfl)
      · skip
        refine jr_bipush F dX7_reign_30 (by decide) ?_
        exact jr_iret F dX7_reign_32 (pA_n (by unfold reiw; rw [if_neg (by omega)]) (by omega) rfl)

set_option maxRecDepth 100000 in
set_option maxHeartbeats 4000000 in
theorem c_X7_number {B : Bs} {w : Wd} {r n : Int} (hR : RI w) (hr : inR r) (hn : inR n) : Sp (GX B) 3 yX7_number cX7_number 3 (Option.some FieldType.int) [.ref (ga (GX B) (0)), iv (r), iv (n)] w (pI (accW (numw w r n) (up w 2 (r * 6 + 2) n) w) (numw w r n)) := by
  refine Sp.of (by decide) (Nat.le_of_ble_eq_true rfl) (fun X F => ?_)
  have h3 := hR.1
  show Jw (GX B) X _ 0 [some (.ref (ga (GX B) (0))), some (iv (r)), some (iv (n))] [] w
  refine jr_aload_n F dX7_number_0 rfl ?_
  refine jr_getR (t := 1) F dX7_number_1 fg_X7_10 (Nat.le_of_ble_eq_true rfl) rfl rfl ?_
  refine jr_iload_n F dX7_number_4 rfl ?_
  refine jr_vI F dX7_number_5 cv_X7_85 (c_X3_has (by omega)) (Nat.le_of_ble_eq_true rfl) rfl rfl rfl rfl (Nat.le_of_ble_eq_true rfl) (Nat.le_of_ble_eq_true rfl) rfl (Nat.le_of_ble_eq_true rfl) ?_
  refine jr_ifne_b (tgt := 14) F dX7_number_8 (by decide) (fun c8 => ?_) (fun c8 => ?_)
  · skip
    have rr := hR.2 r (by omega) (by omega)
    have lp : 0 ≤ lapw w r ∧ lapw w r ≤ 60 := by have := rr.1.2.2 3 (by omega) (by omega); unfold lapw; split <;> omega
    refine jr_iload_n F dX7_number_14 rfl ?_
    refine jr_iconst F dX7_number_15 ?_
    refine jr_bipush F dX7_number_16 (by decide) ?_
    refine jr_sI F dX7_number_18 cs_X7_65 (c_X7_within (by omega) (by omega) (by omega)) rfl (Nat.le_of_ble_eq_true rfl) (Nat.le_of_ble_eq_true rfl) rfl (Nat.le_of_ble_eq_true rfl) ?_
    refine jr_ifeq_b (tgt := 36) F dX7_number_21 (by decide) (fun c21 => ?_) (fun c21 => ?_)
    · skip
      refine jr_bipush F dX7_number_36 (by decide) ?_
      first | exact jr_iret F dX7_number_38 (pA_n (by unfold numw; (repeat' split) <;> omega) (by omega) rfl) | exact jr_iret F dX7_number_38 (pA_y (by unfold numw; (repeat' split) <;> omega) (by omega) rfl)
    · skip
      refine jr_iload_n F dX7_number_24 rfl ?_
      refine jr_aload_n F dX7_number_25 rfl ?_
      refine jr_getR (t := 1) F dX7_number_26 fg_X7_10 (Nat.le_of_ble_eq_true rfl) rfl rfl ?_
      refine jr_iload_n F dX7_number_29 rfl ?_
      refine jr_vI F dX7_number_30 cv_X7_104 (c_X3_overlap (by omega) (by omega)) (Nat.le_of_ble_eq_true rfl) rfl rfl rfl rfl (Nat.le_of_ble_eq_true rfl) (Nat.le_of_ble_eq_true rfl) rfl (Nat.le_of_ble_eq_true rfl) ?_
      refine jr_icmp_ge (tgt := 39) F dX7_number_33 (by decide) (fun c33 => ?_) (fun c33 => ?_) (by omega) (by omega)
      · skip
        refine jr_aload_n F dX7_number_39 rfl ?_
        refine jr_getR (t := 1) F dX7_number_40 fg_X7_10 (Nat.le_of_ble_eq_true rfl) rfl rfl ?_
        refine jr_iload_n F dX7_number_43 rfl ?_
        refine jr_iload_n F dX7_number_44 rfl ?_
        refine jr_vIx F dX7_number_45 cv_X7_107 (c_X3_renumber (by omega) (by omega) (by omega)) (Nat.le_of_ble_eq_true rfl) rfl rfl rfl rfl (Nat.le_of_ble_eq_true rfl) (Nat.le_of_ble_eq_true rfl) rfl (Nat.le_of_ble_eq_true rfl) (fun w45 e45 => ?_)
        first | exact jr_iret F dX7_number_48 (pA_n (by unfold numw; (repeat' split) <;> omega) (by omega) (by subst e45; first | rfl | omega)) | exact jr_iret F dX7_number_48 (pA_y (by unfold numw; (repeat' split) <;> omega) (by omega) (by subst e45; first | rfl | omega))
      · skip
        refine jr_bipush F dX7_number_36 (by decide) ?_
        first | exact jr_iret F dX7_number_38 (pA_n (by unfold numw; (repeat' split) <;> omega) (by omega) rfl) | exact jr_iret F dX7_number_38 (pA_y (by unfold numw; (repeat' split) <;> omega) (by omega) rfl)
  · skip
    refine jr_bipush F dX7_number_11 (by decide) ?_
    first | exact jr_iret F dX7_number_13 (pA_n (by unfold numw; (repeat' split) <;> omega) (by omega) rfl) | exact jr_iret F dX7_number_13 (pA_y (by unfold numw; (repeat' split) <;> omega) (by omega) rfl)

set_option maxRecDepth 100000 in
set_option maxHeartbeats 4000000 in
theorem c_X7_tie {B : Bs} {w : Wd} {a x b y s e : Int} (h3 : 0 ≤ w 1 3 ∧ w 1 3 ≤ 10) (h5 : 0 ≤ w 5 3 ∧ w 5 3 ≤ 8) (h8 : w 5 2 = 8) (ha : inR a) (hx : inR x) (hb : inR b) (hy : inR y) (hs : inR s) (he : inR e) : Sp (GX B) 2 yX7_tie cX7_tie 7 (Option.some FieldType.int) [.ref (ga (GX B) (0)), iv (a), iv (x), iv (b), iv (y), iv (s), iv (e)] w (pI (accW (tiew w a x b y s e) (addTw w 0 a x b y s e) w) (tiew w a x b y s e)) := by
  refine Sp.of (by decide) (Nat.le_of_ble_eq_true rfl) (fun X F => ?_)
  show Jw (GX B) X _ 0 [some (.ref (ga (GX B) (0))), some (iv (a)), some (iv (x)), some (iv (b)), some (iv (y)), some (iv (s)), some (iv (e))] [] w
  refine jr_aload_n F dX7_tie_0 rfl ?_
  refine jr_iload_n F dX7_tie_1 rfl ?_
  refine jr_iload_n F dX7_tie_2 rfl ?_
  refine jr_vI F dX7_tie_3 cv_X7_110 (c_X7_arePair (by omega) (by omega)) (Nat.le_of_ble_eq_true rfl) rfl rfl rfl rfl (Nat.le_of_ble_eq_true rfl) (Nat.le_of_ble_eq_true rfl) rfl (Nat.le_of_ble_eq_true rfl) ?_
  refine jr_ifne_b (tgt := 12) F dX7_tie_6 (by decide) (fun c6 => ?_) (fun c6 => ?_)
  · skip
    refine jr_iload_n F dX7_tie_12 rfl ?_
    refine jr_iload F dX7_tie_13 rfl ?_
    refine jr_sI F dX7_tie_15 cs_X7_113 (c_X7_arePlaces (by omega) (by omega)) rfl (Nat.le_of_ble_eq_true rfl) (Nat.le_of_ble_eq_true rfl) rfl (Nat.le_of_ble_eq_true rfl) ?_
    refine jr_ifeq_b (tgt := 43) F dX7_tie_18 (by decide) (fun c18 => ?_) (fun c18 => ?_)
    · skip
      refine jr_bipush F dX7_tie_43 (by decide) ?_
      first | exact jr_iret F dX7_tie_45 (pA_n (by unfold tiew pairw; (repeat' split) <;> omega) (by omega) rfl) | exact jr_iret F dX7_tie_45 (pA_y (by unfold tiew pairw; (repeat' split) <;> omega) (by omega) rfl)
    · skip
      refine jr_iload F dX7_tie_21 rfl ?_
      refine jr_iconst F dX7_tie_23 ?_
      refine jr_bipush F dX7_tie_24 (by decide) ?_
      refine jr_sI F dX7_tie_26 cs_X7_65 (c_X7_within (by omega) (by omega) (by omega)) rfl (Nat.le_of_ble_eq_true rfl) (Nat.le_of_ble_eq_true rfl) rfl (Nat.le_of_ble_eq_true rfl) ?_
      refine jr_ifeq_b (tgt := 43) F dX7_tie_29 (by decide) (fun c29 => ?_) (fun c29 => ?_)
      · skip
        refine jr_bipush F dX7_tie_43 (by decide) ?_
        first | exact jr_iret F dX7_tie_45 (pA_n (by unfold tiew pairw; (repeat' split) <;> omega) (by omega) rfl) | exact jr_iret F dX7_tie_45 (pA_y (by unfold tiew pairw; (repeat' split) <;> omega) (by omega) rfl)
      · skip
        refine jr_iload F dX7_tie_32 rfl ?_
        refine jr_iconst F dX7_tie_34 ?_
        refine jr_bipush F dX7_tie_35 (by decide) ?_
        refine jr_sI F dX7_tie_37 cs_X7_65 (c_X7_within (by omega) (by omega) (by omega)) rfl (Nat.le_of_ble_eq_true rfl) (Nat.le_of_ble_eq_true rfl) rfl (Nat.le_of_ble_eq_true rfl) ?_
        refine jr_ifne_b (tgt := 46) F dX7_tie_40 (by decide) (fun c40 => ?_) (fun c40 => ?_)
        · skip
          refine jr_aload_n F dX7_tie_46 rfl ?_
          refine jr_getR (t := 5) F dX7_tie_47 fg_X7_21 (Nat.le_of_ble_eq_true rfl) rfl rfl ?_
          refine jr_vI F dX7_tie_50 cv_X7_116 (c_X6_isFull_5) (Nat.le_of_ble_eq_true rfl) rfl rfl rfl rfl (Nat.le_of_ble_eq_true rfl) (Nat.le_of_ble_eq_true rfl) rfl (Nat.le_of_ble_eq_true rfl) ?_
          refine jr_ifeq_b (tgt := 61) F dX7_tie_53 (by decide) (fun c53 => ?_) (fun c53 => ?_)
          · skip
            refine jr_aload_n F dX7_tie_61 rfl ?_
            refine jr_getR (t := 5) F dX7_tie_62 fg_X7_21 (Nat.le_of_ble_eq_true rfl) rfl rfl ?_
            refine jr_iconst F dX7_tie_65 ?_
            refine jr_iload_n F dX7_tie_66 rfl ?_
            refine jr_iload_n F dX7_tie_67 rfl ?_
            refine jr_iload_n F dX7_tie_68 rfl ?_
            refine jr_iload F dX7_tie_69 rfl ?_
            refine jr_iload F dX7_tie_71 rfl ?_
            refine jr_iload F dX7_tie_73 rfl ?_
            refine jr_vIx F dX7_tie_75 cv_X7_120 (c_X6_add_5 (by omega) (by omega) (by omega) (by omega) (by omega) (by omega) (by omega) (by omega)) (Nat.le_of_ble_eq_true rfl) rfl rfl rfl rfl (Nat.le_of_ble_eq_true rfl) (Nat.le_of_ble_eq_true rfl) rfl (Nat.le_of_ble_eq_true rfl) (fun w75 e75 => ?_)
            first | exact jr_iret F dX7_tie_78 (pA_n (by unfold tiew pairw; (repeat' split) <;> omega) (by omega) (by subst e75; first | rfl | omega)) | exact jr_iret F dX7_tie_78 (pA_y (by unfold tiew pairw; (repeat' split) <;> omega) (by omega) (by subst e75; first | rfl | omega))
          · skip
            refine jr_bipush F dX7_tie_56 (by decide) ?_
            refine jr_goto (tgt := 78) F dX7_tie_58 (by decide) ?_
            first | exact jr_iret F dX7_tie_78 (pA_n (by unfold tiew pairw; (repeat' split) <;> omega) (by omega) rfl) | exact jr_iret F dX7_tie_78 (pA_y (by unfold tiew pairw; (repeat' split) <;> omega) (by omega) rfl)
        · skip
          refine jr_bipush F dX7_tie_43 (by decide) ?_
          first | exact jr_iret F dX7_tie_45 (pA_n (by unfold tiew pairw; (repeat' split) <;> omega) (by omega) rfl) | exact jr_iret F dX7_tie_45 (pA_y (by unfold tiew pairw; (repeat' split) <;> omega) (by omega) rfl)
  · skip
    refine jr_bipush F dX7_tie_9 (by decide) ?_
    first | exact jr_iret F dX7_tie_11 (pA_n (by unfold tiew pairw; (repeat' split) <;> omega) (by omega) rfl) | exact jr_iret F dX7_tie_11 (pA_y (by unfold tiew pairw; (repeat' split) <;> omega) (by omega) rfl)

set_option maxRecDepth 100000 in
set_option maxHeartbeats 4000000 in
theorem c_X7_letter {B : Bs} {w : Wd} {a x b y e : Int} (h3 : 0 ≤ w 1 3 ∧ w 1 3 ≤ 10) (h5 : 0 ≤ w 5 3 ∧ w 5 3 ≤ 8) (h8 : w 5 2 = 8) (ha : inR a) (hx : inR x) (hb : inR b) (hy : inR y) (he : inR e) : Sp (GX B) 2 yX7_letter cX7_letter 6 (Option.some FieldType.int) [.ref (ga (GX B) (0)), iv (a), iv (x), iv (b), iv (y), iv (e)] w (pI (accW (letw w a x b y e) (addTw w 3 a x b y (-1) e) w) (letw w a x b y e)) := by
  refine Sp.of (by decide) (Nat.le_of_ble_eq_true rfl) (fun X F => ?_)
  show Jw (GX B) X _ 0 [some (.ref (ga (GX B) (0))), some (iv (a)), some (iv (x)), some (iv (b)), some (iv (y)), some (iv (e))] [] w
  refine jr_aload_n F dX7_letter_0 rfl ?_
  refine jr_iload_n F dX7_letter_1 rfl ?_
  refine jr_iload_n F dX7_letter_2 rfl ?_
  refine jr_vI F dX7_letter_3 cv_X7_110 (c_X7_arePair (by omega) (by omega)) (Nat.le_of_ble_eq_true rfl) rfl rfl rfl rfl (Nat.le_of_ble_eq_true rfl) (Nat.le_of_ble_eq_true rfl) rfl (Nat.le_of_ble_eq_true rfl) ?_
  refine jr_ifne_b (tgt := 12) F dX7_letter_6 (by decide) (fun c6 => ?_) (fun c6 => ?_)
  · skip
    refine jr_iload_n F dX7_letter_12 rfl ?_
    refine jr_iload F dX7_letter_13 rfl ?_
    refine jr_sI F dX7_letter_15 cs_X7_113 (c_X7_arePlaces (by omega) (by omega)) rfl (Nat.le_of_ble_eq_true rfl) (Nat.le_of_ble_eq_true rfl) rfl (Nat.le_of_ble_eq_true rfl) ?_
    refine jr_ifeq_b (tgt := 32) F dX7_letter_18 (by decide) (fun c18 => ?_) (fun c18 => ?_)
    · skip
      refine jr_bipush F dX7_letter_32 (by decide) ?_
      first | exact jr_iret F dX7_letter_34 (pA_n (by unfold letw pairw; (repeat' split) <;> omega) (by omega) rfl) | exact jr_iret F dX7_letter_34 (pA_y (by unfold letw pairw; (repeat' split) <;> omega) (by omega) rfl)
    · skip
      refine jr_iload F dX7_letter_21 rfl ?_
      refine jr_iconst F dX7_letter_23 ?_
      refine jr_bipush F dX7_letter_24 (by decide) ?_
      refine jr_sI F dX7_letter_26 cs_X7_65 (c_X7_within (by omega) (by omega) (by omega)) rfl (Nat.le_of_ble_eq_true rfl) (Nat.le_of_ble_eq_true rfl) rfl (Nat.le_of_ble_eq_true rfl) ?_
      refine jr_ifne_b (tgt := 35) F dX7_letter_29 (by decide) (fun c29 => ?_) (fun c29 => ?_)
      · skip
        refine jr_aload_n F dX7_letter_35 rfl ?_
        refine jr_getR (t := 5) F dX7_letter_36 fg_X7_21 (Nat.le_of_ble_eq_true rfl) rfl rfl ?_
        refine jr_vI F dX7_letter_39 cv_X7_116 (c_X6_isFull_5) (Nat.le_of_ble_eq_true rfl) rfl rfl rfl rfl (Nat.le_of_ble_eq_true rfl) (Nat.le_of_ble_eq_true rfl) rfl (Nat.le_of_ble_eq_true rfl) ?_
        refine jr_ifeq_b (tgt := 50) F dX7_letter_42 (by decide) (fun c42 => ?_) (fun c42 => ?_)
        · skip
          refine jr_aload_n F dX7_letter_50 rfl ?_
          refine jr_getR (t := 5) F dX7_letter_51 fg_X7_21 (Nat.le_of_ble_eq_true rfl) rfl rfl ?_
          refine jr_iconst F dX7_letter_54 ?_
          refine jr_iload_n F dX7_letter_55 rfl ?_
          refine jr_iload_n F dX7_letter_56 rfl ?_
          refine jr_iload_n F dX7_letter_57 rfl ?_
          refine jr_iload F dX7_letter_58 rfl ?_
          refine jr_iconst F dX7_letter_60 ?_
          refine jr_iload F dX7_letter_61 rfl ?_
          refine jr_vIx F dX7_letter_63 cv_X7_120 (c_X6_add_5 (by omega) (by omega) (by omega) (by omega) (by omega) (by omega) (by omega) (by omega)) (Nat.le_of_ble_eq_true rfl) rfl rfl rfl rfl (Nat.le_of_ble_eq_true rfl) (Nat.le_of_ble_eq_true rfl) rfl (Nat.le_of_ble_eq_true rfl) (fun w63 e63 => ?_)
          first | exact jr_iret F dX7_letter_66 (pA_n (by unfold letw pairw; (repeat' split) <;> omega) (by omega) (by subst e63; first | rfl | omega)) | exact jr_iret F dX7_letter_66 (pA_y (by unfold letw pairw; (repeat' split) <;> omega) (by omega) (by subst e63; first | rfl | omega))
        · skip
          refine jr_bipush F dX7_letter_45 (by decide) ?_
          refine jr_goto (tgt := 66) F dX7_letter_47 (by decide) ?_
          first | exact jr_iret F dX7_letter_66 (pA_n (by unfold letw pairw; (repeat' split) <;> omega) (by omega) rfl) | exact jr_iret F dX7_letter_66 (pA_y (by unfold letw pairw; (repeat' split) <;> omega) (by omega) rfl)
      · skip
        refine jr_bipush F dX7_letter_32 (by decide) ?_
        first | exact jr_iret F dX7_letter_34 (pA_n (by unfold letw pairw; (repeat' split) <;> omega) (by omega) rfl) | exact jr_iret F dX7_letter_34 (pA_y (by unfold letw pairw; (repeat' split) <;> omega) (by omega) rfl)
  · skip
    refine jr_bipush F dX7_letter_9 (by decide) ?_
    first | exact jr_iret F dX7_letter_11 (pA_n (by unfold letw pairw; (repeat' split) <;> omega) (by omega) rfl) | exact jr_iret F dX7_letter_11 (pA_y (by unfold letw pairw; (repeat' split) <;> omega) (by omega) rfl)

set_option maxRecDepth 100000 in
set_option maxHeartbeats 4000000 in
theorem c_X7_wish {B : Bs} {w : Wd} {a x b y s : Int} (h3 : 0 ≤ w 1 3 ∧ w 1 3 ≤ 10) (h5 : 0 ≤ w 8 3 ∧ w 8 3 ≤ 6) (h8 : w 8 2 = 6) (ha : inR a) (hx : inR x) (hb : inR b) (hy : inR y) (hs : inR s) : Sp (GX B) 2 yX7_wish cX7_wish 6 (Option.some FieldType.int) [.ref (ga (GX B) (0)), iv (a), iv (x), iv (b), iv (y), iv (s)] w (pI (accW (wisw w a x b y s) (addWw w 0 a x b y s 0) w) (wisw w a x b y s)) := by
  refine Sp.of (by decide) (Nat.le_of_ble_eq_true rfl) (fun X F => ?_)
  show Jw (GX B) X _ 0 [some (.ref (ga (GX B) (0))), some (iv (a)), some (iv (x)), some (iv (b)), some (iv (y)), some (iv (s))] [] w
  refine jr_aload_n F dX7_wish_0 rfl ?_
  refine jr_iload_n F dX7_wish_1 rfl ?_
  refine jr_iload_n F dX7_wish_2 rfl ?_
  refine jr_vI F dX7_wish_3 cv_X7_110 (c_X7_arePair (by omega) (by omega)) (Nat.le_of_ble_eq_true rfl) rfl rfl rfl rfl (Nat.le_of_ble_eq_true rfl) (Nat.le_of_ble_eq_true rfl) rfl (Nat.le_of_ble_eq_true rfl) ?_
  refine jr_ifne_b (tgt := 12) F dX7_wish_6 (by decide) (fun c6 => ?_) (fun c6 => ?_)
  · skip
    refine jr_iload_n F dX7_wish_12 rfl ?_
    refine jr_iload F dX7_wish_13 rfl ?_
    refine jr_sI F dX7_wish_15 cs_X7_113 (c_X7_arePlaces (by omega) (by omega)) rfl (Nat.le_of_ble_eq_true rfl) (Nat.le_of_ble_eq_true rfl) rfl (Nat.le_of_ble_eq_true rfl) ?_
    refine jr_ifeq_b (tgt := 32) F dX7_wish_18 (by decide) (fun c18 => ?_) (fun c18 => ?_)
    · skip
      refine jr_bipush F dX7_wish_32 (by decide) ?_
      first | exact jr_iret F dX7_wish_34 (pA_n (by unfold wisw pairw; (repeat' split) <;> omega) (by omega) rfl) | exact jr_iret F dX7_wish_34 (pA_y (by unfold wisw pairw; (repeat' split) <;> omega) (by omega) rfl)
    · skip
      refine jr_iload F dX7_wish_21 rfl ?_
      refine jr_iconst F dX7_wish_23 ?_
      refine jr_bipush F dX7_wish_24 (by decide) ?_
      refine jr_sI F dX7_wish_26 cs_X7_65 (c_X7_within (by omega) (by omega) (by omega)) rfl (Nat.le_of_ble_eq_true rfl) (Nat.le_of_ble_eq_true rfl) rfl (Nat.le_of_ble_eq_true rfl) ?_
      refine jr_ifne_b (tgt := 35) F dX7_wish_29 (by decide) (fun c29 => ?_) (fun c29 => ?_)
      · skip
        refine jr_aload_n F dX7_wish_35 rfl ?_
        refine jr_getR (t := 8) F dX7_wish_36 fg_X7_25 (Nat.le_of_ble_eq_true rfl) rfl rfl ?_
        refine jr_vI F dX7_wish_39 cv_X7_116 (c_X6_isFull_8) (Nat.le_of_ble_eq_true rfl) rfl rfl rfl rfl (Nat.le_of_ble_eq_true rfl) (Nat.le_of_ble_eq_true rfl) rfl (Nat.le_of_ble_eq_true rfl) ?_
        refine jr_ifeq_b (tgt := 50) F dX7_wish_42 (by decide) (fun c42 => ?_) (fun c42 => ?_)
        · skip
          refine jr_aload_n F dX7_wish_50 rfl ?_
          refine jr_getR (t := 8) F dX7_wish_51 fg_X7_25 (Nat.le_of_ble_eq_true rfl) rfl rfl ?_
          refine jr_iconst F dX7_wish_54 ?_
          refine jr_iload_n F dX7_wish_55 rfl ?_
          refine jr_iload_n F dX7_wish_56 rfl ?_
          refine jr_iload_n F dX7_wish_57 rfl ?_
          refine jr_iload F dX7_wish_58 rfl ?_
          refine jr_iload F dX7_wish_60 rfl ?_
          refine jr_iconst F dX7_wish_62 ?_
          refine jr_vIx F dX7_wish_63 cv_X7_120 (c_X6_add_8 (by omega) (by omega) (by omega) (by omega) (by omega) (by omega) (by omega) (by omega)) (Nat.le_of_ble_eq_true rfl) rfl rfl rfl rfl (Nat.le_of_ble_eq_true rfl) (Nat.le_of_ble_eq_true rfl) rfl (Nat.le_of_ble_eq_true rfl) (fun w63 e63 => ?_)
          first | exact jr_iret F dX7_wish_66 (pA_n (by unfold wisw pairw; (repeat' split) <;> omega) (by omega) (by subst e63; first | rfl | omega)) | exact jr_iret F dX7_wish_66 (pA_y (by unfold wisw pairw; (repeat' split) <;> omega) (by omega) (by subst e63; first | rfl | omega))
        · skip
          refine jr_bipush F dX7_wish_45 (by decide) ?_
          refine jr_goto (tgt := 66) F dX7_wish_47 (by decide) ?_
          first | exact jr_iret F dX7_wish_66 (pA_n (by unfold wisw pairw; (repeat' split) <;> omega) (by omega) rfl) | exact jr_iret F dX7_wish_66 (pA_y (by unfold wisw pairw; (repeat' split) <;> omega) (by omega) rfl)
      · skip
        refine jr_bipush F dX7_wish_32 (by decide) ?_
        first | exact jr_iret F dX7_wish_34 (pA_n (by unfold wisw pairw; (repeat' split) <;> omega) (by omega) rfl) | exact jr_iret F dX7_wish_34 (pA_y (by unfold wisw pairw; (repeat' split) <;> omega) (by omega) rfl)
  · skip
    refine jr_bipush F dX7_wish_9 (by decide) ?_
    first | exact jr_iret F dX7_wish_11 (pA_n (by unfold wisw pairw; (repeat' split) <;> omega) (by omega) rfl) | exact jr_iret F dX7_wish_11 (pA_y (by unfold wisw pairw; (repeat' split) <;> omega) (by omega) rfl)

set_option maxRecDepth 100000 in
set_option maxHeartbeats 4000000 in
theorem c_X7_sky {B : Bs} {w : Wd} {a x p q r e : Int} (h3 : 0 ≤ w 1 3 ∧ w 1 3 ≤ 10) (h5 : 0 ≤ w 5 3 ∧ w 5 3 ≤ 8) (h8 : w 5 2 = 8) (h4 : 0 ≤ w 5 4 ∧ w 5 4 ≤ 2) (ha : inR a) (hx : inR x) (hp : inR p) (hq : inR q) (hr : inR r) (he : inR e) : Sp (GX B) 3 yX7_sky cX7_sky 7 (Option.some FieldType.int) [.ref (ga (GX B) (0)), iv (a), iv (x), iv (p), iv (q), iv (r), iv (e)] w (pI (accW (skqw w a x p q r e) (addTw (skyw w p q r) 1 a x (-1) (-1) (-1) e) w) (skqw w a x p q r e)) := by
  refine Sp.of (by decide) (Nat.le_of_ble_eq_true rfl) (fun X F => ?_)
  show Jw (GX B) X _ 0 [some (.ref (ga (GX B) (0))), some (iv (a)), some (iv (x)), some (iv (p)), some (iv (q)), some (iv (r)), some (iv (e))] [] w
  refine jr_aload_n F dX7_sky_0 rfl ?_
  refine jr_getR (t := 1) F dX7_sky_1 fg_X7_10 (Nat.le_of_ble_eq_true rfl) rfl rfl ?_
  refine jr_iload_n F dX7_sky_4 rfl ?_
  refine jr_vI F dX7_sky_5 cv_X7_85 (c_X3_has (by omega)) (Nat.le_of_ble_eq_true rfl) rfl rfl rfl rfl (Nat.le_of_ble_eq_true rfl) (Nat.le_of_ble_eq_true rfl) rfl (Nat.le_of_ble_eq_true rfl) ?_
  refine jr_ifne_b (tgt := 14) F dX7_sky_8 (by decide) (fun c8 => ?_) (fun c8 => ?_)
  · skip
    refine jr_iload_n F dX7_sky_14 rfl ?_
    refine jr_iload_n F dX7_sky_15 rfl ?_
    refine jr_sI F dX7_sky_16 cs_X7_113 (c_X7_arePlaces (by omega) (by omega)) rfl (Nat.le_of_ble_eq_true rfl) (Nat.le_of_ble_eq_true rfl) rfl (Nat.le_of_ble_eq_true rfl) ?_
    refine jr_ifeq_b (tgt := 56) F dX7_sky_19 (by decide) (fun c19 => ?_) (fun c19 => ?_)
    · skip
      refine jr_bipush F dX7_sky_56 (by decide) ?_
      first | exact jr_iret F dX7_sky_58 (pA_n (by unfold skqw; (repeat' split) <;> omega) (by omega) rfl) | exact jr_iret F dX7_sky_58 (pA_y (by unfold skqw; (repeat' split) <;> omega) (by omega) rfl)
    · skip
      refine jr_iload_n F dX7_sky_22 rfl ?_
      refine jr_sI F dX7_sky_23 cs_X7_123 (c_X7_isYear (by omega)) rfl (Nat.le_of_ble_eq_true rfl) (Nat.le_of_ble_eq_true rfl) rfl (Nat.le_of_ble_eq_true rfl) ?_
      refine jr_ifeq_b (tgt := 56) F dX7_sky_26 (by decide) (fun c26 => ?_) (fun c26 => ?_)
      · skip
        refine jr_bipush F dX7_sky_56 (by decide) ?_
        first | exact jr_iret F dX7_sky_58 (pA_n (by unfold skqw; (repeat' split) <;> omega) (by omega) rfl) | exact jr_iret F dX7_sky_58 (pA_y (by unfold skqw; (repeat' split) <;> omega) (by omega) rfl)
      · skip
        refine jr_iload F dX7_sky_29 rfl ?_
        refine jr_sI F dX7_sky_31 cs_X7_123 (c_X7_isYear (by omega)) rfl (Nat.le_of_ble_eq_true rfl) (Nat.le_of_ble_eq_true rfl) rfl (Nat.le_of_ble_eq_true rfl) ?_
        refine jr_ifeq_b (tgt := 56) F dX7_sky_34 (by decide) (fun c34 => ?_) (fun c34 => ?_)
        · skip
          refine jr_bipush F dX7_sky_56 (by decide) ?_
          first | exact jr_iret F dX7_sky_58 (pA_n (by unfold skqw; (repeat' split) <;> omega) (by omega) rfl) | exact jr_iret F dX7_sky_58 (pA_y (by unfold skqw; (repeat' split) <;> omega) (by omega) rfl)
        · skip
          refine jr_iload F dX7_sky_37 rfl ?_
          refine jr_sI F dX7_sky_39 cs_X7_123 (c_X7_isYear (by omega)) rfl (Nat.le_of_ble_eq_true rfl) (Nat.le_of_ble_eq_true rfl) rfl (Nat.le_of_ble_eq_true rfl) ?_
          refine jr_ifeq_b (tgt := 56) F dX7_sky_42 (by decide) (fun c42 => ?_) (fun c42 => ?_)
          · skip
            refine jr_bipush F dX7_sky_56 (by decide) ?_
            first | exact jr_iret F dX7_sky_58 (pA_n (by unfold skqw; (repeat' split) <;> omega) (by omega) rfl) | exact jr_iret F dX7_sky_58 (pA_y (by unfold skqw; (repeat' split) <;> omega) (by omega) rfl)
          · skip
            refine jr_iload F dX7_sky_45 rfl ?_
            refine jr_iconst F dX7_sky_47 ?_
            refine jr_bipush F dX7_sky_48 (by decide) ?_
            refine jr_sI F dX7_sky_50 cs_X7_65 (c_X7_within (by omega) (by omega) (by omega)) rfl (Nat.le_of_ble_eq_true rfl) (Nat.le_of_ble_eq_true rfl) rfl (Nat.le_of_ble_eq_true rfl) ?_
            refine jr_ifne_b (tgt := 59) F dX7_sky_53 (by decide) (fun c53 => ?_) (fun c53 => ?_)
            · skip
              refine jr_aload_n F dX7_sky_59 rfl ?_
              refine jr_getR (t := 5) F dX7_sky_60 fg_X7_21 (Nat.le_of_ble_eq_true rfl) rfl rfl ?_
              refine jr_vI F dX7_sky_63 cv_X7_116 (c_X6_isFull_5) (Nat.le_of_ble_eq_true rfl) rfl rfl rfl rfl (Nat.le_of_ble_eq_true rfl) (Nat.le_of_ble_eq_true rfl) rfl (Nat.le_of_ble_eq_true rfl) ?_
              refine jr_ifne_b (tgt := 79) F dX7_sky_66 (by decide) (fun c66 => ?_) (fun c66 => ?_)
              · skip
                refine jr_bipush F dX7_sky_79 (by decide) ?_
                refine jr_goto (tgt := 100) F dX7_sky_81 (by decide) ?_
                first | exact jr_iret F dX7_sky_100 (pA_n (by unfold skqw; (repeat' split) <;> omega) (by omega) rfl) | exact jr_iret F dX7_sky_100 (pA_y (by unfold skqw; (repeat' split) <;> omega) (by omega) rfl)
              · skip
                refine jr_aload_n F dX7_sky_69 rfl ?_
                refine jr_getR (t := 5) F dX7_sky_70 fg_X7_21 (Nat.le_of_ble_eq_true rfl) rfl rfl ?_
                refine jr_vI F dX7_sky_73 cv_X7_126 (c_X6_areSkiesFull_5) (Nat.le_of_ble_eq_true rfl) rfl rfl rfl rfl (Nat.le_of_ble_eq_true rfl) (Nat.le_of_ble_eq_true rfl) rfl (Nat.le_of_ble_eq_true rfl) ?_
                refine jr_ifeq_b (tgt := 84) F dX7_sky_76 (by decide) (fun c76 => ?_) (fun c76 => ?_)
                · skip
                  refine jr_aload_n F dX7_sky_84 rfl ?_
                  refine jr_getR (t := 5) F dX7_sky_85 fg_X7_21 (Nat.le_of_ble_eq_true rfl) rfl rfl ?_
                  refine jr_iload_n F dX7_sky_88 rfl ?_
                  refine jr_iload_n F dX7_sky_89 rfl ?_
                  refine jr_iload_n F dX7_sky_90 rfl ?_
                  refine jr_iload F dX7_sky_91 rfl ?_
                  refine jr_iload F dX7_sky_93 rfl ?_
                  refine jr_iload F dX7_sky_95 rfl ?_
                  refine jr_vIx F dX7_sky_97 cv_X7_129 (c_X6_addSky_5 (by omega) (by omega) (by omega) (by omega) (by omega) (by omega) (by omega) (by omega)) (Nat.le_of_ble_eq_true rfl) rfl rfl rfl rfl (Nat.le_of_ble_eq_true rfl) (Nat.le_of_ble_eq_true rfl) rfl (Nat.le_of_ble_eq_true rfl) (fun w97 e97 => ?_)
                  first | exact jr_iret F dX7_sky_100 (pA_n (by unfold skqw; (repeat' split) <;> omega) (by omega) (by subst e97; first | rfl | omega)) | exact jr_iret F dX7_sky_100 (pA_y (by unfold skqw; (repeat' split) <;> omega) (by omega) (by subst e97; first | rfl | omega))
                · skip
                  refine jr_bipush F dX7_sky_79 (by decide) ?_
                  refine jr_goto (tgt := 100) F dX7_sky_81 (by decide) ?_
                  first | exact jr_iret F dX7_sky_100 (pA_n (by unfold skqw; (repeat' split) <;> omega) (by omega) rfl) | exact jr_iret F dX7_sky_100 (pA_y (by unfold skqw; (repeat' split) <;> omega) (by omega) rfl)
            · skip
              refine jr_bipush F dX7_sky_56 (by decide) ?_
              first | exact jr_iret F dX7_sky_58 (pA_n (by unfold skqw; (repeat' split) <;> omega) (by omega) rfl) | exact jr_iret F dX7_sky_58 (pA_y (by unfold skqw; (repeat' split) <;> omega) (by omega) rfl)
  · skip
    refine jr_bipush F dX7_sky_11 (by decide) ?_
    first | exact jr_iret F dX7_sky_13 (pA_n (by unfold skqw; (repeat' split) <;> omega) (by omega) rfl) | exact jr_iret F dX7_sky_13 (pA_y (by unfold skqw; (repeat' split) <;> omega) (by omega) rfl)

set_option maxRecDepth 100000 in
set_option maxHeartbeats 4000000 in
theorem c_X7_ring {B : Bs} {w : Wd} {a x p e : Int} (h3 : 0 ≤ w 1 3 ∧ w 1 3 ≤ 10) (h5 : 0 ≤ w 5 3 ∧ w 5 3 ≤ 8) (h8 : w 5 2 = 8) (ha : inR a) (hx : inR x) (hp : inR p) (he : inR e) : Sp (GX B) 3 yX7_ring cX7_ring 5 (Option.some FieldType.int) [.ref (ga (GX B) (0)), iv (a), iv (x), iv (p), iv (e)] w (pI (accW (rinw w a x p e) (addTw (up w 7 (w 5 3 * 3) p) 2 a x (-1) (-1) (-1) e) w) (rinw w a x p e)) := by
  refine Sp.of (by decide) (Nat.le_of_ble_eq_true rfl) (fun X F => ?_)
  show Jw (GX B) X _ 0 [some (.ref (ga (GX B) (0))), some (iv (a)), some (iv (x)), some (iv (p)), some (iv (e))] [] w
  refine jr_aload_n F dX7_ring_0 rfl ?_
  refine jr_getR (t := 1) F dX7_ring_1 fg_X7_10 (Nat.le_of_ble_eq_true rfl) rfl rfl ?_
  refine jr_iload_n F dX7_ring_4 rfl ?_
  refine jr_vI F dX7_ring_5 cv_X7_85 (c_X3_has (by omega)) (Nat.le_of_ble_eq_true rfl) rfl rfl rfl rfl (Nat.le_of_ble_eq_true rfl) (Nat.le_of_ble_eq_true rfl) rfl (Nat.le_of_ble_eq_true rfl) ?_
  refine jr_ifne_b (tgt := 14) F dX7_ring_8 (by decide) (fun c8 => ?_) (fun c8 => ?_)
  · skip
    refine jr_iload_n F dX7_ring_14 rfl ?_
    refine jr_iload_n F dX7_ring_15 rfl ?_
    refine jr_sI F dX7_ring_16 cs_X7_113 (c_X7_arePlaces (by omega) (by omega)) rfl (Nat.le_of_ble_eq_true rfl) (Nat.le_of_ble_eq_true rfl) rfl (Nat.le_of_ble_eq_true rfl) ?_
    refine jr_ifeq_b (tgt := 40) F dX7_ring_19 (by decide) (fun c19 => ?_) (fun c19 => ?_)
    · skip
      refine jr_bipush F dX7_ring_40 (by decide) ?_
      first | exact jr_iret F dX7_ring_42 (pA_n (by unfold rinw; (repeat' split) <;> omega) (by omega) rfl) | exact jr_iret F dX7_ring_42 (pA_y (by unfold rinw; (repeat' split) <;> omega) (by omega) rfl)
    · skip
      refine jr_iload_n F dX7_ring_22 rfl ?_
      refine jr_sI F dX7_ring_23 cs_X7_123 (c_X7_isYear (by omega)) rfl (Nat.le_of_ble_eq_true rfl) (Nat.le_of_ble_eq_true rfl) rfl (Nat.le_of_ble_eq_true rfl) ?_
      refine jr_ifeq_b (tgt := 40) F dX7_ring_26 (by decide) (fun c26 => ?_) (fun c26 => ?_)
      · skip
        refine jr_bipush F dX7_ring_40 (by decide) ?_
        first | exact jr_iret F dX7_ring_42 (pA_n (by unfold rinw; (repeat' split) <;> omega) (by omega) rfl) | exact jr_iret F dX7_ring_42 (pA_y (by unfold rinw; (repeat' split) <;> omega) (by omega) rfl)
      · skip
        refine jr_iload F dX7_ring_29 rfl ?_
        refine jr_iconst F dX7_ring_31 ?_
        refine jr_bipush F dX7_ring_32 (by decide) ?_
        refine jr_sI F dX7_ring_34 cs_X7_65 (c_X7_within (by omega) (by omega) (by omega)) rfl (Nat.le_of_ble_eq_true rfl) (Nat.le_of_ble_eq_true rfl) rfl (Nat.le_of_ble_eq_true rfl) ?_
        refine jr_ifne_b (tgt := 43) F dX7_ring_37 (by decide) (fun c37 => ?_) (fun c37 => ?_)
        · skip
          refine jr_aload_n F dX7_ring_43 rfl ?_
          refine jr_getR (t := 5) F dX7_ring_44 fg_X7_21 (Nat.le_of_ble_eq_true rfl) rfl rfl ?_
          refine jr_vI F dX7_ring_47 cv_X7_116 (c_X6_isFull_5) (Nat.le_of_ble_eq_true rfl) rfl rfl rfl rfl (Nat.le_of_ble_eq_true rfl) (Nat.le_of_ble_eq_true rfl) rfl (Nat.le_of_ble_eq_true rfl) ?_
          refine jr_ifeq_b (tgt := 58) F dX7_ring_50 (by decide) (fun c50 => ?_) (fun c50 => ?_)
          · skip
            refine jr_aload_n F dX7_ring_58 rfl ?_
            refine jr_getR (t := 5) F dX7_ring_59 fg_X7_21 (Nat.le_of_ble_eq_true rfl) rfl rfl ?_
            refine jr_iload_n F dX7_ring_62 rfl ?_
            refine jr_iload_n F dX7_ring_63 rfl ?_
            refine jr_iload_n F dX7_ring_64 rfl ?_
            refine jr_iload F dX7_ring_65 rfl ?_
            refine jr_vIx F dX7_ring_67 cv_X7_133 (c_X6_addRing_5 (by omega) (by omega) (by omega) (by omega) (by omega)) (Nat.le_of_ble_eq_true rfl) rfl rfl rfl rfl (Nat.le_of_ble_eq_true rfl) (Nat.le_of_ble_eq_true rfl) rfl (Nat.le_of_ble_eq_true rfl) (fun w67 e67 => ?_)
            first | exact jr_iret F dX7_ring_70 (pA_n (by unfold rinw; (repeat' split) <;> omega) (by omega) (by subst e67; first | rfl | omega)) | exact jr_iret F dX7_ring_70 (pA_y (by unfold rinw; (repeat' split) <;> omega) (by omega) (by subst e67; first | rfl | omega))
          · skip
            refine jr_bipush F dX7_ring_53 (by decide) ?_
            refine jr_goto (tgt := 70) F dX7_ring_55 (by decide) ?_
            first | exact jr_iret F dX7_ring_70 (pA_n (by unfold rinw; (repeat' split) <;> omega) (by omega) rfl) | exact jr_iret F dX7_ring_70 (pA_y (by unfold rinw; (repeat' split) <;> omega) (by omega) rfl)
        · skip
          refine jr_bipush F dX7_ring_40 (by decide) ?_
          first | exact jr_iret F dX7_ring_42 (pA_n (by unfold rinw; (repeat' split) <;> omega) (by omega) rfl) | exact jr_iret F dX7_ring_42 (pA_y (by unfold rinw; (repeat' split) <;> omega) (by omega) rfl)
  · skip
    refine jr_bipush F dX7_ring_11 (by decide) ?_
    first | exact jr_iret F dX7_ring_13 (pA_n (by unfold rinw; (repeat' split) <;> omega) (by omega) rfl) | exact jr_iret F dX7_ring_13 (pA_y (by unfold rinw; (repeat' split) <;> omega) (by omega) rfl)

set_option maxRecDepth 100000 in
set_option maxHeartbeats 4000000 in
theorem c_X7_undo {B : Bs} {w : Wd}  (h5 : 0 ≤ w 5 3 ∧ w 5 3 ≤ 8) (h4 : 0 ≤ w 5 4 ∧ w 5 4 ≤ 2) : Sp (GX B) 3 yX7_undo cX7_undo 1 (Option.some FieldType.int) [.ref (ga (GX B) (0))] w (pI (accW (undw w) (undW w) w) (undw w)) := by
  refine Sp.of (by decide) (Nat.le_of_ble_eq_true rfl) (fun X F => ?_)
  show Jw (GX B) X _ 0 [some (.ref (ga (GX B) (0)))] [] w
  refine jr_aload_n F dX7_undo_0 rfl ?_
  refine jr_getR (t := 5) F dX7_undo_1 fg_X7_21 (Nat.le_of_ble_eq_true rfl) rfl rfl ?_
  refine jr_vI F dX7_undo_4 cv_X7_139 (c_X6_size_5) (Nat.le_of_ble_eq_true rfl) rfl rfl rfl rfl (Nat.le_of_ble_eq_true rfl) (Nat.le_of_ble_eq_true rfl) rfl (Nat.le_of_ble_eq_true rfl) ?_
  refine jr_if_le (tgt := 20) F dX7_undo_7 (by decide) (fun c7 => ?_) (fun c7 => ?_) (by omega)
  · skip
    refine jr_bipush F dX7_undo_20 (by decide) ?_
    first | exact jr_iret F dX7_undo_22 (pA_n (by unfold undw; (repeat' split) <;> omega) (by omega) rfl) | exact jr_iret F dX7_undo_22 (pA_y (by unfold undw; (repeat' split) <;> omega) (by omega) rfl)
  · skip
    refine jr_aload_n F dX7_undo_10 rfl ?_
    refine jr_getR (t := 5) F dX7_undo_11 fg_X7_21 (Nat.le_of_ble_eq_true rfl) rfl rfl ?_
    refine jr_vIx F dX7_undo_14 cv_X7_143 (c_X6_drop_5 (by omega) (by omega)) (Nat.le_of_ble_eq_true rfl) rfl rfl rfl rfl (Nat.le_of_ble_eq_true rfl) (Nat.le_of_ble_eq_true rfl) rfl (Nat.le_of_ble_eq_true rfl) (fun w14 e14 => ?_)
    refine jr_goto (tgt := 22) F dX7_undo_17 (by decide) ?_
    first | exact jr_iret F dX7_undo_22 (pA_n (by unfold undw; (repeat' split) <;> omega) (by omega) (by subst e14; first | rfl | omega)) | exact jr_iret F dX7_undo_22 (pA_y (by unfold undw; (repeat' split) <;> omega) (by omega) (by subst e14; first | rfl | omega))

set_option maxRecDepth 100000 in
set_option maxHeartbeats 4000000 in
theorem c_X7_letters {B : Bs} {w : Wd} {z : Int} (hp : 0 ≤ w 18 1 ∧ w 18 1 ≤ 60) : Sp (GX B) 2 yX7_letters cX7_letters 4 (Option.some FieldType.int) [.ref (ga (GX B) (0)), lq (z)] w (pI (accW (lesw w z) (lesW w z) w) (lesw w z)) := by
  refine Sp.of (by decide) (Nat.le_of_ble_eq_true rfl) (fun X F => ?_)
  have lr := lin_R z 8 0 0 (by omega)
  show Jw (GX B) X _ 0 [some (.ref (ga (GX B) (0))), some (lq (z)), none] [] w
  refine jr_lload_n F dX7_letters_0 rfl ?_
  refine jr_sI F dX7_letters_1 cs_X7_146 (c_X2_lettersIn) rfl (Nat.le_of_ble_eq_true rfl) (Nat.le_of_ble_eq_true rfl) rfl (Nat.le_of_ble_eq_true rfl) ?_
  refine jr_ti (b := (lin z 8 0 0)) rfl ?_
  refine jr_istore_n F dX7_letters_4 (Nat.le_of_ble_eq_true rfl) rfl ?_
  refine jr_iload_n F dX7_letters_5 rfl ?_
  refine jr_bipush F dX7_letters_6 (by decide) ?_
  refine jr_icmp_ne (tgt := 14) F dX7_letters_8 (by decide) (fun c8 => ?_) (fun c8 => ?_) (by omega) (by omega)
  · skip
    refine jr_iload_n F dX7_letters_14 rfl ?_
    refine jr_bipush F dX7_letters_15 (by decide) ?_
    refine jr_aload_n F dX7_letters_17 rfl ?_
    refine jr_getR (t := 18) F dX7_letters_18 fg_X7_48 (Nat.le_of_ble_eq_true rfl) rfl rfl ?_
    refine jr_vI F dX7_letters_21 cv_X7_150 (c_X2_size) (Nat.le_of_ble_eq_true rfl) rfl rfl rfl rfl (Nat.le_of_ble_eq_true rfl) (Nat.le_of_ble_eq_true rfl) rfl (Nat.le_of_ble_eq_true rfl) ?_
    refine jr_isub F dX7_letters_24 ?_
    refine jr_icmp_le (tgt := 33) F dX7_letters_25 (by decide) (fun c25 => ?_) (fun c25 => ?_) (by omega) (by omega)
    · skip
      refine jr_aload_n F dX7_letters_33 rfl ?_
      refine jr_getR (t := 18) F dX7_letters_34 fg_X7_48 (Nat.le_of_ble_eq_true rfl) rfl rfl ?_
      refine jr_lload_n F dX7_letters_37 rfl ?_
      refine jr_iload_n F dX7_letters_38 rfl ?_
      refine jr_vIx F dX7_letters_39 cv_X7_151 (c_X2_write (by omega) (by omega)) (Nat.le_of_ble_eq_true rfl) rfl rfl rfl rfl (Nat.le_of_ble_eq_true rfl) (Nat.le_of_ble_eq_true rfl) rfl (Nat.le_of_ble_eq_true rfl) (fun w39 e39 => ?_)
      first | exact jr_iret F dX7_letters_42 (pA_n (by unfold lesw; (repeat' split) <;> omega) (by omega) (by subst e39; first | rfl | omega)) | exact jr_iret F dX7_letters_42 (pA_y (by unfold lesw; (repeat' split) <;> omega) (by omega) (by subst e39; first | rfl | omega))
    · skip
      refine jr_bipush F dX7_letters_28 (by decide) ?_
      refine jr_goto (tgt := 42) F dX7_letters_30 (by decide) ?_
      first | exact jr_iret F dX7_letters_42 (pA_n (by unfold lesw; (repeat' split) <;> omega) (by omega) rfl) | exact jr_iret F dX7_letters_42 (pA_y (by unfold lesw; (repeat' split) <;> omega) (by omega) rfl)
  · skip
    refine jr_bipush F dX7_letters_11 (by decide) ?_
    first | exact jr_iret F dX7_letters_13 (pA_n (by unfold lesw; (repeat' split) <;> omega) (by omega) rfl) | exact jr_iret F dX7_letters_13 (pA_y (by unfold lesw; (repeat' split) <;> omega) (by omega) rfl)

set_option maxRecDepth 100000 in
set_option maxHeartbeats 4000000 in
theorem c_X7_blank {B : Bs} {w : Wd}   : Sp (GX B) 1 yX7_blank cX7_blank 1 (Option.some FieldType.int) [.ref (ga (GX B) (0))] w (pI (up w 18 1 0) (w 18 1)) := by
  refine Sp.of (by decide) (Nat.le_of_ble_eq_true rfl) (fun X F => ?_)
  show Jw (GX B) X _ 0 [some (.ref (ga (GX B) (0)))] [] w
  refine jr_aload_n F dX7_blank_0 rfl ?_
  refine jr_getR (t := 18) F dX7_blank_1 fg_X7_48 (Nat.le_of_ble_eq_true rfl) rfl rfl ?_
  refine jr_vIx F dX7_blank_4 cv_X7_155 (c_X2_wipe) (Nat.le_of_ble_eq_true rfl) rfl rfl rfl rfl (Nat.le_of_ble_eq_true rfl) (Nat.le_of_ble_eq_true rfl) rfl (Nat.le_of_ble_eq_true rfl) (fun w4 e4 => ?_)
  exact jr_iret F dX7_blank_7 (pI_of (by first | rfl | omega) (by subst e4; first | rfl | omega))

set_option maxRecDepth 100000 in
set_option maxHeartbeats 4000000 in
theorem c_X7_fault {B : Bs} {w : Wd}  (hp : 0 ≤ w 18 1 ∧ w 18 1 ≤ 60) : Sp (GX B) 3 yX7_fault cX7_fault 1 (Option.some FieldType.int) [.ref (ga (GX B) (0))] w (pE (fun r u => r = (scw w).1 ∧ u = faw w)) := by
  refine Sp.of (by decide) (Nat.le_of_ble_eq_true rfl) (fun X F => ?_)
  show Jw (GX B) X _ 0 [some (.ref (ga (GX B) (0)))] [] w
  refine jr_aload_n F dX7_fault_0 rfl ?_
  refine jr_getR (t := 18) F dX7_fault_1 fg_X7_48 (Nat.le_of_ble_eq_true rfl) rfl rfl ?_
  refine jr_vE F dX7_fault_4 cv_X7_158 (c_X2_firstFault (by omega)) (Nat.le_of_ble_eq_true rfl) rfl rfl rfl rfl (Nat.le_of_ble_eq_true rfl) (Nat.le_of_ble_eq_true rfl) rfl (Nat.le_of_ble_eq_true rfl) (fun r4 w4 h4 => ?_)
  exact jr_iret F dX7_fault_7 (pE_of h4)

