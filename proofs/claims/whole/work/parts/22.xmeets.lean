theorem jr_tl {G : Gc} {X : Xc} {post : Option Value → Wd → Prop} {pc : Nat} {lv : List (Option Value)} {rest : List Value} {w : Wd} {a b : Int} (h : a = b) (k : Jw G X post pc lv (lq b :: rest) w) : Jw G X post pc lv (lq a :: rest) w := by rw [h]; exact k
theorem rd_c {w u : Wd} {k : Nat} (h : u k = w k) (n i : Int) : rd u k n i = rd w k n i := by unfold rd; rw [h]
def selv (a b c d : Int) (x : Int) : Int := if x = 108 then a else if x = 107 then b else if x = 110 then c else d
theorem valv_e (w : Wd) (c : Int) : valv w c = selv (w 17 0) (w 17 1) (w 17 2) (w 17 3) c := rfl
theorem valv_s (w : Wd) (q : Q3) (c : Int) : valv (s17 w q) c = valv w c := rfl
theorem valv_R {B : Bs} {w : Wd} (hO : okW (GX B) w) (c : Int) : inR (valv w c) := by
  have h0 : inR (w 17 0) := hO.2 17 5 [0, 0, 0, 0, 1, 1, 1] rfl 0 0 rfl
  have h1 : inR (w 17 1) := hO.2 17 5 [0, 0, 0, 0, 1, 1, 1] rfl 1 0 rfl
  have h2 : inR (w 17 2) := hO.2 17 5 [0, 0, 0, 0, 1, 1, 1] rfl 2 0 rfl
  have h3 : inR (w 17 3) := hO.2 17 5 [0, 0, 0, 0, 1, 1, 1] rfl 3 0 rfl
  unfold valv; (repeat' split) <;> assumption
def evC (o L : Int → Int) (e k : Int) : Nat := (cmpv (o (L (k - 1))) (L k) (numv (L (k + 1)) (if k + 2 < e then L (k + 2) else -1))).toNat
def evL (o L : Int → Int) (e k : Int) (q : Q3) : Q3 :=
  if L k = 33 then qN q else if L k = 40 then qP q else if L k = 41 then qE q else if L k = 124 then qB q
  else if L k = 60 ∨ L k = 61 ∨ L k = 62 then qT (evC o L e k) q else q
def evS (o L : Int → Int) (e : Int) : Nat → Int → Q3 → Q3
  | 0, _, q => q
  | f + 1, k, q => evS o L e f (k + 1) (evL o L e k q)
theorem evL_lt {o L : Int → Int} {e k : Int} {q : Q3} {m : Nat} (h : qlt q (m + 1)) : qlt (evL o L e k q) (m + 2) := by
  have u := qlt_up h (show m + 1 ≤ m + 2 by omega)
  unfold evL
  (repeat' split)
  · exact qlt_N u
  · exact qlt_P h
  · exact qlt_T (qlt_H u)
  · exact qlt_B u
  · exact qlt_T u
  · exact u
theorem evS_s {o L : Int → Int} {e k : Int} {q q' : Q3} (hk : k < e) (h : evL o L e k q = q') : evS o L e (e - k).toNat k q = evS o L e (e - (k + 1)).toNat (k + 1) q' := by
  rw [show (e - k).toNat = (e - (k + 1)).toNat + 1 by omega, evS, h]
/-- a text's condition, read from s to e -/
def evR (o L : Int → Int) (s e : Int) : Q3 := evS o L e (e - s).toNat s (0, 1, 0)

set_option maxRecDepth 100000 in
set_option maxHeartbeats 4000000 in
theorem c_X5_meets_12 {B : Bs} {w : Wd} {s e : Int} (hs : 0 ≤ s ∧ s ≤ 1000) (he : -10 ≤ e ∧ e ≤ 1000) (hse : e - s ≤ 58) (hL : ∀ p : Int, -1 ≤ rd w 12 360 p ∧ rd w 12 360 p ≤ 126) : Sp (GX B) 2 yX5_meets cX5_meets 8 (Option.some FieldType.boolean) [.ref (ga (GX B) (17)), .ref (ga (GX B) (12)), iv (s), iv (e)] w (pB (qV (evR (valv w) (rd w 12 360) s e) = 1) (fun u => ∃ q, u = s17 w q)) := by
  refine Sp.of (by decide) (Nat.le_of_ble_eq_true rfl) (fun X F => ?_)
  show Jw (GX B) X _ 0 [some (.ref (ga (GX B) (17))), some (.ref (ga (GX B) (12))), some (iv (s)), some (iv (e))] [] w
  refine jr_aload_n F dX5_meets_0 rfl ?_
  refine jr_lconst (z := 0) F dX5_meets_1 (by decide) ?_
  refine jr_putLx F dX5_meets_2 fp_X5_24 (Nat.le_of_ble_eq_true rfl) rfl rfl (by omega) (fun w2 e2 => ?_)
  refine jr_aload_n F dX5_meets_5 rfl ?_
  refine jr_lconst (z := 1) F dX5_meets_6 (by decide) ?_
  refine jr_putLx F dX5_meets_7 fp_X5_28 (Nat.le_of_ble_eq_true rfl) rfl rfl (by omega) (fun w7 e7 => ?_)
  refine jr_aload_n F dX5_meets_10 rfl ?_
  refine jr_lconst (z := 0) F dX5_meets_11 (by decide) ?_
  refine jr_putLx F dX5_meets_12 fp_X5_31 (Nat.le_of_ble_eq_true rfl) rfl rfl (by omega) (fun w12 e12 => ?_)
  refine jr_iload_n F dX5_meets_15 rfl ?_
  refine jr_istore F dX5_meets_16 (Nat.le_of_ble_eq_true rfl) rfl ?_
  have L18 : ∀ (fuel : Nat) (u : Wd) (k : Int) (q : Q3), (e - k).toNat < fuel → (s ≤ k) → (k ≤ e ∨ k = s) → (qlt q ((k - s).toNat + 1)) → (u = s17 w q) → (evR (valv w) (rd w 12 360) s e = evS (valv w) (rd w 12 360) e (e - k).toNat k q) → Jw (GX B) X (pB (qV (evR (valv w) (rd w 12 360) s e) = 1) (fun u => ∃ q, u = s17 w q)) 18 [some (.ref (ga (GX B) 17)), some (.ref (ga (GX B) 12)), some (iv s), some (iv e), some (iv k)] [] u := by
    intro fuel
    induction fuel with
    | zero => intro u k q hfuel; exact absurd hfuel (Nat.not_lt_zero _)
    | succ fuel ih18 =>
        intro u k q hfuel k0 k1 hb hu hv
        refine jr_ok (fun hO => ?_)
        have iq : isQ u q := by subst hu; exact s17_q w q
        obtain ⟨a4, a5, a6⟩ := id iq
        obtain ⟨b4, b5, b6⟩ := q63 hb (by omega)
        have Lk := hL k
        have Lu : ∀ p : Int, rd u 12 360 p = rd w 12 360 p := fun p => rd_c (by subst hu; exact s17_c w q (by decide)) _ p
        have Vu : ∀ x : Int, valv u x = valv w x := fun x => by subst hu; rfl
        refine jr_iload F dX5_meets_18 rfl ?_
        refine jr_iload_n F dX5_meets_20 rfl ?_
        refine jr_icmp_ge (tgt := 228) F dX5_meets_21 (by decide) (fun c21 => ?_) (fun c21 => ?_) (by omega) (by omega)
        · skip
          have hq1 : qV (evR (valv w) (rd w 12 360) s e) = qV q := by rw [hv, show (e - k).toNat = 0 by omega, evS]
          have hV := qV_R q
          have m4 : q.1 ||| q.2.1 < 2 ^ 62 := Nat.or_lt_two_pow (by omega) (by omega)
          refine jr_aload_n F dX5_meets_228 rfl ?_
          refine jr_getLx F (q.1 : Int) dX5_meets_229 fg_X5_24 (Nat.le_of_ble_eq_true rfl) rfl rfl a4 (fun q229 => ?_)
          refine jr_aload_n F dX5_meets_232 rfl ?_
          refine jr_getLx F (q.2.1 : Int) dX5_meets_233 fg_X5_28 (Nat.le_of_ble_eq_true rfl) rfl rfl a5 (fun q233 => ?_)
          refine jr_lor F dX5_meets_236 ?_
          refine jr_topl (z := ((q.1 ||| q.2.1 : Nat) : Int)) F (hl_or (by omega) (by omega)) ?_
          refine jr_lconst (z := 1) F dX5_meets_237 (by decide) ?_
          refine jr_land F dX5_meets_238 ?_
          refine jr_topl (z := ((qV q : Nat) : Int)) F (hl_and (b := 1) (by omega) (by omega)) ?_
          refine jr_lconst (z := 1) F dX5_meets_239 (by decide) ?_
          refine jr_lcmp F dX5_meets_240 ?_
          refine jr_top (z := cmpI ((qV q : Nat) : Int) 1) F (l64_cmp (by have := qV_R q; omega) (by omega)) ?_
          refine jr_if_ne (tgt := 248) F dX5_meets_241 (by decide) (fun c241 => ?_) (fun c241 => ?_) (by have := cmpI_R ((qV q : Nat) : Int) 1; omega)
          · skip
            refine jr_iconst F dX5_meets_248 ?_
            exact jr_zret F dX5_meets_249 (pB_of (bi_f (by rw [hq1]; rw [cmpI_0] at c241; omega)).symm ⟨q, hu⟩) (by omega)
          · skip
            refine jr_iconst F dX5_meets_244 ?_
            refine jr_goto (tgt := 249) F dX5_meets_245 (by decide) ?_
            exact jr_zret F dX5_meets_249 (pB_of (bi_t (by rw [hq1]; rw [cmpI_0] at c241; omega)).symm ⟨q, hu⟩) (by omega)
        · skip
          refine jr_aload_n F dX5_meets_24 rfl ?_
          refine jr_iload F dX5_meets_25 rfl ?_
          refine jr_nI F dX5_meets_27 cn_X5_34 (c_X7_at (Nat.le_of_ble_eq_true rfl) rfl (by omega) (by omega)) rfl (Nat.le_of_ble_eq_true rfl) (Nat.le_of_ble_eq_true rfl) rfl (Nat.le_of_ble_eq_true rfl) ?_
          refine jr_ti (b := ((rd w 12 360) k)) (Lu k) ?_
          refine jr_istore F dX5_meets_30 (Nat.le_of_ble_eq_true rfl) rfl ?_
          refine jr_iload F dX5_meets_32 rfl ?_
          rcases (show ((rd w 12 360) k) = 33 ∨ ((rd w 12 360) k) = 40 ∨ ((rd w 12 360) k) = 41 ∨ ((rd w 12 360) k) = 60 ∨ ((rd w 12 360) k) = 61 ∨ ((rd w 12 360) k) = 62 ∨ ((rd w 12 360) k) = 124 ∨ (¬ ((rd w 12 360) k) = 33 ∧ ¬ ((rd w 12 360) k) = 40 ∧ ¬ ((rd w 12 360) k) = 41 ∧ ¬ ((rd w 12 360) k) = 60 ∧ ¬ ((rd w 12 360) k) = 61 ∧ ¬ ((rd w 12 360) k) = 62 ∧ ¬ ((rd w 12 360) k) = 124) by omega) with c34 | c34 | c34 | c34 | c34 | c34 | c34 | c34
          · refine jr_look (tgt := 100) (off := 66) F dX5_meets_34 (by decide) (by rw [c34]; decide) (by decide) (by omega) ?_
            have hev : evL (valv w) (rd w 12 360) e k q = qN q := by unfold evL; rw [if_pos (by omega)]
            have n1 : q.2.2 &&& 1 ≤ 1 := Nat.and_le_right
            refine jr_aload_n F dX5_meets_100 rfl ?_
            refine jr_dup F dX5_meets_101 rfl ?_
            refine jr_getLx F (q.2.2 : Int) dX5_meets_102 fg_X5_31 (Nat.le_of_ble_eq_true rfl) rfl rfl a6 (fun q102 => ?_)
            refine jr_lconst (z := 1) F dX5_meets_105 (by decide) ?_
            refine jr_lxor F dX5_meets_106 ?_
            refine jr_topl (z := ((q.2.2 ^^^ 1 : Nat) : Int)) F (hl_xor (b := 1) (by omega) (by omega)) ?_
            refine jr_putLx F dX5_meets_107 fp_X5_31 (Nat.le_of_ble_eq_true rfl) rfl rfl (by have := (qlt_N hb).2.2; simp only [qN] at this; have := (qlt_up (q := qN q) (qlt_N hb) (show (k - s).toNat + 1 ≤ 62 by omega)).2.2; simp only [qN] at this; omega) (fun w107 e107 => ?_)
            refine jr_goto (tgt := 222) F dX5_meets_110 (by decide) ?_
            refine jr_iinc F dX5_meets_222 rfl (Nat.le_of_ble_eq_true rfl) rfl ?_
            refine jr_goto (tgt := 18) F dX5_meets_225 (by decide) ?_
            exact jr_sub (ih18 _ (k + 1) (qN q) (by omega) (by omega) (by omega) (by have := evL_lt (o := valv w) (L := (rd w 12 360)) (e := e) (k := k) hb; rw [hev] at this; rw [show (k + 1 - s).toNat = (k - s).toNat + 1 by omega]; exact this) (by subst e107; subst hu; exact s17_of rfl rfl (up_self _ _ _ _) (fun k i h => by rw [up_ne (by omega)]; unfold s17; rw [up_ne (by omega), up_ne (by omega), up_ne (by omega)])) (by rw [hv]; exact evS_s c21 hev)) ⟨rfl, rfl, rfl, rfl, rfl, trivial⟩
          · refine jr_look (tgt := 113) (off := 79) F dX5_meets_34 (by decide) (by rw [c34]; decide) (by decide) (by omega) ?_
            have hev : evL (valv w) (rd w 12 360) e k q = qP q := by unfold evL; rw [if_neg (by omega), if_pos (by omega)]
            refine jr_aload_n F dX5_meets_113 rfl ?_
            refine jr_vVx F dX5_meets_114 cv_X5_38 (c_X5_begin (q := q) iq (qlt_up hb (by omega))) (Nat.le_of_ble_eq_true rfl) rfl rfl rfl rfl (Nat.le_of_ble_eq_true rfl) (Nat.le_of_ble_eq_true rfl) rfl (Nat.le_of_ble_eq_true rfl) (fun w114 e114 => ?_)
            refine jr_goto (tgt := 222) F dX5_meets_117 (by decide) ?_
            refine jr_iinc F dX5_meets_222 rfl (Nat.le_of_ble_eq_true rfl) rfl ?_
            refine jr_goto (tgt := 18) F dX5_meets_225 (by decide) ?_
            exact jr_sub (ih18 _ (k + 1) (qP q) (by omega) (by omega) (by omega) (by have := evL_lt (o := valv w) (L := (rd w 12 360)) (e := e) (k := k) hb; rw [hev] at this; rw [show (k + 1 - s).toNat = (k - s).toNat + 1 by omega]; exact this) (by subst e114; subst hu; exact s17_s _ _ _) (by rw [hv]; exact evS_s c21 hev)) ⟨rfl, rfl, rfl, rfl, rfl, trivial⟩
          · refine jr_look (tgt := 120) (off := 86) F dX5_meets_34 (by decide) (by rw [c34]; decide) (by decide) (by omega) ?_
            have hev : evL (valv w) (rd w 12 360) e k q = qE q := by unfold evL; rw [if_neg (by omega), if_neg (by omega), if_pos (by omega)]
            refine jr_aload_n F dX5_meets_120 rfl ?_
            refine jr_aload_n F dX5_meets_121 rfl ?_
            refine jr_vLx F dX5_meets_122 cv_X5_41 (c_X5_end (q := q) iq (qlt_up hb (by omega))) (Nat.le_of_ble_eq_true rfl) rfl rfl rfl rfl (Nat.le_of_ble_eq_true rfl) (Nat.le_of_ble_eq_true rfl) rfl (Nat.le_of_ble_eq_true rfl) (fun w122 e122 => ?_)
            refine jr_vU F dX5_meets_125 cv_X5_45 (c_X5_take (q := qH q) (n := qV q) (by subst e122; exact s17_q _ _) (qlt_H (qlt_up hb (by omega))) (qV_R q)) (Nat.le_of_ble_eq_true rfl) rfl rfl rfl rfl (Nat.le_of_ble_eq_true rfl) (Nat.le_of_ble_eq_true rfl) rfl (Nat.le_of_ble_eq_true rfl) (fun w125 h125 => ?_)
            refine jr_goto (tgt := 222) F dX5_meets_128 (by decide) ?_
            refine jr_iinc F dX5_meets_222 rfl (Nat.le_of_ble_eq_true rfl) rfl ?_
            refine jr_goto (tgt := 18) F dX5_meets_225 (by decide) ?_
            exact jr_sub (ih18 _ (k + 1) (qE q) (by omega) (by omega) (by omega) (by have := evL_lt (o := valv w) (L := (rd w 12 360)) (e := e) (k := k) hb; rw [hev] at this; rw [show (k + 1 - s).toNat = (k - s).toNat + 1 by omega]; exact this) (by rw [h125]; subst e122; subst hu; rw [s17_s, s17_s]; rfl) (by rw [hv]; exact evS_s c21 hev)) ⟨rfl, rfl, rfl, rfl, rfl, trivial⟩
          · refine jr_look (tgt := 159) (off := 125) F dX5_meets_34 (by decide) (by rw [c34]; decide) (by decide) (by omega) ?_
            have hev : evL (valv w) (rd w 12 360) e k q = qT (evC (valv w) (rd w 12 360) e k) q := by unfold evL; rw [if_neg (by omega), if_neg (by omega), if_neg (by omega), if_neg (by omega), if_pos (by omega)]
            have L1 := hL (k + 1)
            have L2 := hL (k + 2)
            have L9 := hL (k - 1)
            have Vr := valv_R hO
            have V1 : inR (valv w ((rd w 12 360) (k - 1))) := by rw [← Vu]; exact Vr _
            refine jr_iload F dX5_meets_159 rfl ?_
            refine jr_iconst F dX5_meets_161 ?_
            refine jr_iadd F dX5_meets_162 ?_
            refine jr_iload_n F dX5_meets_163 rfl ?_
            refine jr_icmp_ge (tgt := 178) F dX5_meets_164 (by decide) (fun c164 => ?_) (fun c164 => ?_) (by omega) (by omega)
            · skip
              refine jr_iconst F dX5_meets_178 ?_
              refine jr_istore F dX5_meets_179 (Nat.le_of_ble_eq_true rfl) rfl ?_
              refine jr_aload_n F dX5_meets_181 rfl ?_
              refine jr_iload F dX5_meets_182 rfl ?_
              refine jr_iconst F dX5_meets_184 ?_
              refine jr_iadd F dX5_meets_185 ?_
              refine jr_nI F dX5_meets_186 cn_X5_34 (c_X7_at (Nat.le_of_ble_eq_true rfl) rfl (by omega) (by omega)) rfl (Nat.le_of_ble_eq_true rfl) (Nat.le_of_ble_eq_true rfl) rfl (Nat.le_of_ble_eq_true rfl) ?_
              refine jr_ti (b := ((rd w 12 360) (k + 1))) (Lu (k + 1)) ?_
              refine jr_iload F dX5_meets_189 rfl ?_
              refine jr_sI F dX5_meets_191 cs_X5_49 (c_X5_numberOf (by omega) (by omega)) rfl (Nat.le_of_ble_eq_true rfl) (Nat.le_of_ble_eq_true rfl) rfl (Nat.le_of_ble_eq_true rfl) ?_
              refine jr_istore F dX5_meets_194 (Nat.le_of_ble_eq_true rfl) rfl ?_
              refine jr_aload_n F dX5_meets_196 rfl ?_
              refine jr_aload_n F dX5_meets_197 rfl ?_
              refine jr_aload_n F dX5_meets_198 rfl ?_
              refine jr_iload F dX5_meets_199 rfl ?_
              refine jr_iconst F dX5_meets_201 ?_
              refine jr_isub F dX5_meets_202 ?_
              refine jr_nI F dX5_meets_203 cn_X5_34 (c_X7_at (Nat.le_of_ble_eq_true rfl) rfl (by omega) (by omega)) rfl (Nat.le_of_ble_eq_true rfl) (Nat.le_of_ble_eq_true rfl) rfl (Nat.le_of_ble_eq_true rfl) ?_
              refine jr_ti (b := ((rd w 12 360) (k - 1))) (Lu (k - 1)) ?_
              refine jr_vI F dX5_meets_206 cv_X5_53 (c_X5_valueOf (by omega)) (Nat.le_of_ble_eq_true rfl) rfl rfl rfl rfl (Nat.le_of_ble_eq_true rfl) (Nat.le_of_ble_eq_true rfl) rfl (Nat.le_of_ble_eq_true rfl) ?_
              refine jr_ti (b := (valv w ((rd w 12 360) (k - 1)))) (Vu _) ?_
              refine jr_iload F dX5_meets_209 rfl ?_
              refine jr_iload F dX5_meets_211 rfl ?_
              refine jr_sL F dX5_meets_213 cs_X5_57 (c_X5_compared (by omega) (by omega) (by unfold numv; split <;> omega)) rfl (Nat.le_of_ble_eq_true rfl) (Nat.le_of_ble_eq_true rfl) rfl (Nat.le_of_ble_eq_true rfl) ?_
              refine jr_tl (b := ((evC (valv w) (rd w 12 360) e k : Nat) : Int)) (by have := cmpv_R (valv w ((rd w 12 360) (k - 1))) ((rd w 12 360) k) (numv ((rd w 12 360) (k + 1)) (if k + 2 < e then (rd w 12 360) (k + 2) else -1)); unfold evC; first | (rw [if_pos (by omega)] at this ⊢; omega) | (rw [if_neg (by omega)] at this ⊢; omega)) ?_
              refine jr_vU F dX5_meets_216 cv_X5_45 (c_X5_take (q := q) (n := evC (valv w) (rd w 12 360) e k) iq (qlt_up hb (by omega)) (by unfold evC; have := cmpv_R (valv w ((rd w 12 360) (k - 1))) ((rd w 12 360) k) (numv ((rd w 12 360) (k + 1)) (if k + 2 < e then (rd w 12 360) (k + 2) else -1)); omega)) (Nat.le_of_ble_eq_true rfl) rfl rfl rfl rfl (Nat.le_of_ble_eq_true rfl) (Nat.le_of_ble_eq_true rfl) rfl (Nat.le_of_ble_eq_true rfl) (fun w216 h216 => ?_)
              refine jr_goto (tgt := 222) F dX5_meets_219 (by decide) ?_
              refine jr_iinc F dX5_meets_222 rfl (Nat.le_of_ble_eq_true rfl) rfl ?_
              refine jr_goto (tgt := 18) F dX5_meets_225 (by decide) ?_
              exact jr_sub (ih18 _ (k + 1) (qT (evC (valv w) (rd w 12 360) e k) q) (by omega) (by omega) (by omega) (by have := evL_lt (o := valv w) (L := (rd w 12 360)) (e := e) (k := k) hb; rw [hev] at this; rw [show (k + 1 - s).toNat = (k - s).toNat + 1 by omega]; exact this) (by rw [h216]; subst hu; rw [s17_s]) (by rw [hv]; exact evS_s c21 hev)) ⟨rfl, rfl, rfl, rfl, rfl, trivial⟩
            · skip
              refine jr_aload_n F dX5_meets_167 rfl ?_
              refine jr_iload F dX5_meets_168 rfl ?_
              refine jr_iconst F dX5_meets_170 ?_
              refine jr_iadd F dX5_meets_171 ?_
              refine jr_nI F dX5_meets_172 cn_X5_34 (c_X7_at (Nat.le_of_ble_eq_true rfl) rfl (by omega) (by omega)) rfl (Nat.le_of_ble_eq_true rfl) (Nat.le_of_ble_eq_true rfl) rfl (Nat.le_of_ble_eq_true rfl) ?_
              refine jr_ti (b := ((rd w 12 360) (k + 2))) (Lu (k + 2)) ?_
              refine jr_goto (tgt := 179) F dX5_meets_175 (by decide) ?_
              refine jr_istore F dX5_meets_179 (Nat.le_of_ble_eq_true rfl) rfl ?_
              refine jr_aload_n F dX5_meets_181 rfl ?_
              refine jr_iload F dX5_meets_182 rfl ?_
              refine jr_iconst F dX5_meets_184 ?_
              refine jr_iadd F dX5_meets_185 ?_
              refine jr_nI F dX5_meets_186 cn_X5_34 (c_X7_at (Nat.le_of_ble_eq_true rfl) rfl (by omega) (by omega)) rfl (Nat.le_of_ble_eq_true rfl) (Nat.le_of_ble_eq_true rfl) rfl (Nat.le_of_ble_eq_true rfl) ?_
              refine jr_ti (b := ((rd w 12 360) (k + 1))) (Lu (k + 1)) ?_
              refine jr_iload F dX5_meets_189 rfl ?_
              refine jr_sI F dX5_meets_191 cs_X5_49 (c_X5_numberOf (by omega) (by omega)) rfl (Nat.le_of_ble_eq_true rfl) (Nat.le_of_ble_eq_true rfl) rfl (Nat.le_of_ble_eq_true rfl) ?_
              refine jr_istore F dX5_meets_194 (Nat.le_of_ble_eq_true rfl) rfl ?_
              refine jr_aload_n F dX5_meets_196 rfl ?_
              refine jr_aload_n F dX5_meets_197 rfl ?_
              refine jr_aload_n F dX5_meets_198 rfl ?_
              refine jr_iload F dX5_meets_199 rfl ?_
              refine jr_iconst F dX5_meets_201 ?_
              refine jr_isub F dX5_meets_202 ?_
              refine jr_nI F dX5_meets_203 cn_X5_34 (c_X7_at (Nat.le_of_ble_eq_true rfl) rfl (by omega) (by omega)) rfl (Nat.le_of_ble_eq_true rfl) (Nat.le_of_ble_eq_true rfl) rfl (Nat.le_of_ble_eq_true rfl) ?_
              refine jr_ti (b := ((rd w 12 360) (k - 1))) (Lu (k - 1)) ?_
              refine jr_vI F dX5_meets_206 cv_X5_53 (c_X5_valueOf (by omega)) (Nat.le_of_ble_eq_true rfl) rfl rfl rfl rfl (Nat.le_of_ble_eq_true rfl) (Nat.le_of_ble_eq_true rfl) rfl (Nat.le_of_ble_eq_true rfl) ?_
              refine jr_ti (b := (valv w ((rd w 12 360) (k - 1)))) (Vu _) ?_
              refine jr_iload F dX5_meets_209 rfl ?_
              refine jr_iload F dX5_meets_211 rfl ?_
              refine jr_sL F dX5_meets_213 cs_X5_57 (c_X5_compared (by omega) (by omega) (by unfold numv; split <;> omega)) rfl (Nat.le_of_ble_eq_true rfl) (Nat.le_of_ble_eq_true rfl) rfl (Nat.le_of_ble_eq_true rfl) ?_
              refine jr_tl (b := ((evC (valv w) (rd w 12 360) e k : Nat) : Int)) (by have := cmpv_R (valv w ((rd w 12 360) (k - 1))) ((rd w 12 360) k) (numv ((rd w 12 360) (k + 1)) (if k + 2 < e then (rd w 12 360) (k + 2) else -1)); unfold evC; first | (rw [if_pos (by omega)] at this ⊢; omega) | (rw [if_neg (by omega)] at this ⊢; omega)) ?_
              refine jr_vU F dX5_meets_216 cv_X5_45 (c_X5_take (q := q) (n := evC (valv w) (rd w 12 360) e k) iq (qlt_up hb (by omega)) (by unfold evC; have := cmpv_R (valv w ((rd w 12 360) (k - 1))) ((rd w 12 360) k) (numv ((rd w 12 360) (k + 1)) (if k + 2 < e then (rd w 12 360) (k + 2) else -1)); omega)) (Nat.le_of_ble_eq_true rfl) rfl rfl rfl rfl (Nat.le_of_ble_eq_true rfl) (Nat.le_of_ble_eq_true rfl) rfl (Nat.le_of_ble_eq_true rfl) (fun w216 h216 => ?_)
              refine jr_goto (tgt := 222) F dX5_meets_219 (by decide) ?_
              refine jr_iinc F dX5_meets_222 rfl (Nat.le_of_ble_eq_true rfl) rfl ?_
              refine jr_goto (tgt := 18) F dX5_meets_225 (by decide) ?_
              exact jr_sub (ih18 _ (k + 1) (qT (evC (valv w) (rd w 12 360) e k) q) (by omega) (by omega) (by omega) (by have := evL_lt (o := valv w) (L := (rd w 12 360)) (e := e) (k := k) hb; rw [hev] at this; rw [show (k + 1 - s).toNat = (k - s).toNat + 1 by omega]; exact this) (by rw [h216]; subst hu; rw [s17_s]) (by rw [hv]; exact evS_s c21 hev)) ⟨rfl, rfl, rfl, rfl, rfl, trivial⟩
          · refine jr_look (tgt := 159) (off := 125) F dX5_meets_34 (by decide) (by rw [c34]; decide) (by decide) (by omega) ?_
            have hev : evL (valv w) (rd w 12 360) e k q = qT (evC (valv w) (rd w 12 360) e k) q := by unfold evL; rw [if_neg (by omega), if_neg (by omega), if_neg (by omega), if_neg (by omega), if_pos (by omega)]
            have L1 := hL (k + 1)
            have L2 := hL (k + 2)
            have L9 := hL (k - 1)
            have Vr := valv_R hO
            have V1 : inR (valv w ((rd w 12 360) (k - 1))) := by rw [← Vu]; exact Vr _
            refine jr_iload F dX5_meets_159 rfl ?_
            refine jr_iconst F dX5_meets_161 ?_
            refine jr_iadd F dX5_meets_162 ?_
            refine jr_iload_n F dX5_meets_163 rfl ?_
            refine jr_icmp_ge (tgt := 178) F dX5_meets_164 (by decide) (fun c164 => ?_) (fun c164 => ?_) (by omega) (by omega)
            · skip
              refine jr_iconst F dX5_meets_178 ?_
              refine jr_istore F dX5_meets_179 (Nat.le_of_ble_eq_true rfl) rfl ?_
              refine jr_aload_n F dX5_meets_181 rfl ?_
              refine jr_iload F dX5_meets_182 rfl ?_
              refine jr_iconst F dX5_meets_184 ?_
              refine jr_iadd F dX5_meets_185 ?_
              refine jr_nI F dX5_meets_186 cn_X5_34 (c_X7_at (Nat.le_of_ble_eq_true rfl) rfl (by omega) (by omega)) rfl (Nat.le_of_ble_eq_true rfl) (Nat.le_of_ble_eq_true rfl) rfl (Nat.le_of_ble_eq_true rfl) ?_
              refine jr_ti (b := ((rd w 12 360) (k + 1))) (Lu (k + 1)) ?_
              refine jr_iload F dX5_meets_189 rfl ?_
              refine jr_sI F dX5_meets_191 cs_X5_49 (c_X5_numberOf (by omega) (by omega)) rfl (Nat.le_of_ble_eq_true rfl) (Nat.le_of_ble_eq_true rfl) rfl (Nat.le_of_ble_eq_true rfl) ?_
              refine jr_istore F dX5_meets_194 (Nat.le_of_ble_eq_true rfl) rfl ?_
              refine jr_aload_n F dX5_meets_196 rfl ?_
              refine jr_aload_n F dX5_meets_197 rfl ?_
              refine jr_aload_n F dX5_meets_198 rfl ?_
              refine jr_iload F dX5_meets_199 rfl ?_
              refine jr_iconst F dX5_meets_201 ?_
              refine jr_isub F dX5_meets_202 ?_
              refine jr_nI F dX5_meets_203 cn_X5_34 (c_X7_at (Nat.le_of_ble_eq_true rfl) rfl (by omega) (by omega)) rfl (Nat.le_of_ble_eq_true rfl) (Nat.le_of_ble_eq_true rfl) rfl (Nat.le_of_ble_eq_true rfl) ?_
              refine jr_ti (b := ((rd w 12 360) (k - 1))) (Lu (k - 1)) ?_
              refine jr_vI F dX5_meets_206 cv_X5_53 (c_X5_valueOf (by omega)) (Nat.le_of_ble_eq_true rfl) rfl rfl rfl rfl (Nat.le_of_ble_eq_true rfl) (Nat.le_of_ble_eq_true rfl) rfl (Nat.le_of_ble_eq_true rfl) ?_
              refine jr_ti (b := (valv w ((rd w 12 360) (k - 1)))) (Vu _) ?_
              refine jr_iload F dX5_meets_209 rfl ?_
              refine jr_iload F dX5_meets_211 rfl ?_
              refine jr_sL F dX5_meets_213 cs_X5_57 (c_X5_compared (by omega) (by omega) (by unfold numv; split <;> omega)) rfl (Nat.le_of_ble_eq_true rfl) (Nat.le_of_ble_eq_true rfl) rfl (Nat.le_of_ble_eq_true rfl) ?_
              refine jr_tl (b := ((evC (valv w) (rd w 12 360) e k : Nat) : Int)) (by have := cmpv_R (valv w ((rd w 12 360) (k - 1))) ((rd w 12 360) k) (numv ((rd w 12 360) (k + 1)) (if k + 2 < e then (rd w 12 360) (k + 2) else -1)); unfold evC; first | (rw [if_pos (by omega)] at this ⊢; omega) | (rw [if_neg (by omega)] at this ⊢; omega)) ?_
              refine jr_vU F dX5_meets_216 cv_X5_45 (c_X5_take (q := q) (n := evC (valv w) (rd w 12 360) e k) iq (qlt_up hb (by omega)) (by unfold evC; have := cmpv_R (valv w ((rd w 12 360) (k - 1))) ((rd w 12 360) k) (numv ((rd w 12 360) (k + 1)) (if k + 2 < e then (rd w 12 360) (k + 2) else -1)); omega)) (Nat.le_of_ble_eq_true rfl) rfl rfl rfl rfl (Nat.le_of_ble_eq_true rfl) (Nat.le_of_ble_eq_true rfl) rfl (Nat.le_of_ble_eq_true rfl) (fun w216 h216 => ?_)
              refine jr_goto (tgt := 222) F dX5_meets_219 (by decide) ?_
              refine jr_iinc F dX5_meets_222 rfl (Nat.le_of_ble_eq_true rfl) rfl ?_
              refine jr_goto (tgt := 18) F dX5_meets_225 (by decide) ?_
              exact jr_sub (ih18 _ (k + 1) (qT (evC (valv w) (rd w 12 360) e k) q) (by omega) (by omega) (by omega) (by have := evL_lt (o := valv w) (L := (rd w 12 360)) (e := e) (k := k) hb; rw [hev] at this; rw [show (k + 1 - s).toNat = (k - s).toNat + 1 by omega]; exact this) (by rw [h216]; subst hu; rw [s17_s]) (by rw [hv]; exact evS_s c21 hev)) ⟨rfl, rfl, rfl, rfl, rfl, trivial⟩
            · skip
              refine jr_aload_n F dX5_meets_167 rfl ?_
              refine jr_iload F dX5_meets_168 rfl ?_
              refine jr_iconst F dX5_meets_170 ?_
              refine jr_iadd F dX5_meets_171 ?_
              refine jr_nI F dX5_meets_172 cn_X5_34 (c_X7_at (Nat.le_of_ble_eq_true rfl) rfl (by omega) (by omega)) rfl (Nat.le_of_ble_eq_true rfl) (Nat.le_of_ble_eq_true rfl) rfl (Nat.le_of_ble_eq_true rfl) ?_
              refine jr_ti (b := ((rd w 12 360) (k + 2))) (Lu (k + 2)) ?_
              refine jr_goto (tgt := 179) F dX5_meets_175 (by decide) ?_
              refine jr_istore F dX5_meets_179 (Nat.le_of_ble_eq_true rfl) rfl ?_
              refine jr_aload_n F dX5_meets_181 rfl ?_
              refine jr_iload F dX5_meets_182 rfl ?_
              refine jr_iconst F dX5_meets_184 ?_
              refine jr_iadd F dX5_meets_185 ?_
              refine jr_nI F dX5_meets_186 cn_X5_34 (c_X7_at (Nat.le_of_ble_eq_true rfl) rfl (by omega) (by omega)) rfl (Nat.le_of_ble_eq_true rfl) (Nat.le_of_ble_eq_true rfl) rfl (Nat.le_of_ble_eq_true rfl) ?_
              refine jr_ti (b := ((rd w 12 360) (k + 1))) (Lu (k + 1)) ?_
              refine jr_iload F dX5_meets_189 rfl ?_
              refine jr_sI F dX5_meets_191 cs_X5_49 (c_X5_numberOf (by omega) (by omega)) rfl (Nat.le_of_ble_eq_true rfl) (Nat.le_of_ble_eq_true rfl) rfl (Nat.le_of_ble_eq_true rfl) ?_
              refine jr_istore F dX5_meets_194 (Nat.le_of_ble_eq_true rfl) rfl ?_
              refine jr_aload_n F dX5_meets_196 rfl ?_
              refine jr_aload_n F dX5_meets_197 rfl ?_
              refine jr_aload_n F dX5_meets_198 rfl ?_
              refine jr_iload F dX5_meets_199 rfl ?_
              refine jr_iconst F dX5_meets_201 ?_
              refine jr_isub F dX5_meets_202 ?_
              refine jr_nI F dX5_meets_203 cn_X5_34 (c_X7_at (Nat.le_of_ble_eq_true rfl) rfl (by omega) (by omega)) rfl (Nat.le_of_ble_eq_true rfl) (Nat.le_of_ble_eq_true rfl) rfl (Nat.le_of_ble_eq_true rfl) ?_
              refine jr_ti (b := ((rd w 12 360) (k - 1))) (Lu (k - 1)) ?_
              refine jr_vI F dX5_meets_206 cv_X5_53 (c_X5_valueOf (by omega)) (Nat.le_of_ble_eq_true rfl) rfl rfl rfl rfl (Nat.le_of_ble_eq_true rfl) (Nat.le_of_ble_eq_true rfl) rfl (Nat.le_of_ble_eq_true rfl) ?_
              refine jr_ti (b := (valv w ((rd w 12 360) (k - 1)))) (Vu _) ?_
              refine jr_iload F dX5_meets_209 rfl ?_
              refine jr_iload F dX5_meets_211 rfl ?_
              refine jr_sL F dX5_meets_213 cs_X5_57 (c_X5_compared (by omega) (by omega) (by unfold numv; split <;> omega)) rfl (Nat.le_of_ble_eq_true rfl) (Nat.le_of_ble_eq_true rfl) rfl (Nat.le_of_ble_eq_true rfl) ?_
              refine jr_tl (b := ((evC (valv w) (rd w 12 360) e k : Nat) : Int)) (by have := cmpv_R (valv w ((rd w 12 360) (k - 1))) ((rd w 12 360) k) (numv ((rd w 12 360) (k + 1)) (if k + 2 < e then (rd w 12 360) (k + 2) else -1)); unfold evC; first | (rw [if_pos (by omega)] at this ⊢; omega) | (rw [if_neg (by omega)] at this ⊢; omega)) ?_
              refine jr_vU F dX5_meets_216 cv_X5_45 (c_X5_take (q := q) (n := evC (valv w) (rd w 12 360) e k) iq (qlt_up hb (by omega)) (by unfold evC; have := cmpv_R (valv w ((rd w 12 360) (k - 1))) ((rd w 12 360) k) (numv ((rd w 12 360) (k + 1)) (if k + 2 < e then (rd w 12 360) (k + 2) else -1)); omega)) (Nat.le_of_ble_eq_true rfl) rfl rfl rfl rfl (Nat.le_of_ble_eq_true rfl) (Nat.le_of_ble_eq_true rfl) rfl (Nat.le_of_ble_eq_true rfl) (fun w216 h216 => ?_)
              refine jr_goto (tgt := 222) F dX5_meets_219 (by decide) ?_
              refine jr_iinc F dX5_meets_222 rfl (Nat.le_of_ble_eq_true rfl) rfl ?_
              refine jr_goto (tgt := 18) F dX5_meets_225 (by decide) ?_
              exact jr_sub (ih18 _ (k + 1) (qT (evC (valv w) (rd w 12 360) e k) q) (by omega) (by omega) (by omega) (by have := evL_lt (o := valv w) (L := (rd w 12 360)) (e := e) (k := k) hb; rw [hev] at this; rw [show (k + 1 - s).toNat = (k - s).toNat + 1 by omega]; exact this) (by rw [h216]; subst hu; rw [s17_s]) (by rw [hv]; exact evS_s c21 hev)) ⟨rfl, rfl, rfl, rfl, rfl, trivial⟩
          · refine jr_look (tgt := 159) (off := 125) F dX5_meets_34 (by decide) (by rw [c34]; decide) (by decide) (by omega) ?_
            have hev : evL (valv w) (rd w 12 360) e k q = qT (evC (valv w) (rd w 12 360) e k) q := by unfold evL; rw [if_neg (by omega), if_neg (by omega), if_neg (by omega), if_neg (by omega), if_pos (by omega)]
            have L1 := hL (k + 1)
            have L2 := hL (k + 2)
            have L9 := hL (k - 1)
            have Vr := valv_R hO
            have V1 : inR (valv w ((rd w 12 360) (k - 1))) := by rw [← Vu]; exact Vr _
            refine jr_iload F dX5_meets_159 rfl ?_
            refine jr_iconst F dX5_meets_161 ?_
            refine jr_iadd F dX5_meets_162 ?_
            refine jr_iload_n F dX5_meets_163 rfl ?_
            refine jr_icmp_ge (tgt := 178) F dX5_meets_164 (by decide) (fun c164 => ?_) (fun c164 => ?_) (by omega) (by omega)
            · skip
              refine jr_iconst F dX5_meets_178 ?_
              refine jr_istore F dX5_meets_179 (Nat.le_of_ble_eq_true rfl) rfl ?_
              refine jr_aload_n F dX5_meets_181 rfl ?_
              refine jr_iload F dX5_meets_182 rfl ?_
              refine jr_iconst F dX5_meets_184 ?_
              refine jr_iadd F dX5_meets_185 ?_
              refine jr_nI F dX5_meets_186 cn_X5_34 (c_X7_at (Nat.le_of_ble_eq_true rfl) rfl (by omega) (by omega)) rfl (Nat.le_of_ble_eq_true rfl) (Nat.le_of_ble_eq_true rfl) rfl (Nat.le_of_ble_eq_true rfl) ?_
              refine jr_ti (b := ((rd w 12 360) (k + 1))) (Lu (k + 1)) ?_
              refine jr_iload F dX5_meets_189 rfl ?_
              refine jr_sI F dX5_meets_191 cs_X5_49 (c_X5_numberOf (by omega) (by omega)) rfl (Nat.le_of_ble_eq_true rfl) (Nat.le_of_ble_eq_true rfl) rfl (Nat.le_of_ble_eq_true rfl) ?_
              refine jr_istore F dX5_meets_194 (Nat.le_of_ble_eq_true rfl) rfl ?_
              refine jr_aload_n F dX5_meets_196 rfl ?_
              refine jr_aload_n F dX5_meets_197 rfl ?_
              refine jr_aload_n F dX5_meets_198 rfl ?_
              refine jr_iload F dX5_meets_199 rfl ?_
              refine jr_iconst F dX5_meets_201 ?_
              refine jr_isub F dX5_meets_202 ?_
              refine jr_nI F dX5_meets_203 cn_X5_34 (c_X7_at (Nat.le_of_ble_eq_true rfl) rfl (by omega) (by omega)) rfl (Nat.le_of_ble_eq_true rfl) (Nat.le_of_ble_eq_true rfl) rfl (Nat.le_of_ble_eq_true rfl) ?_
              refine jr_ti (b := ((rd w 12 360) (k - 1))) (Lu (k - 1)) ?_
              refine jr_vI F dX5_meets_206 cv_X5_53 (c_X5_valueOf (by omega)) (Nat.le_of_ble_eq_true rfl) rfl rfl rfl rfl (Nat.le_of_ble_eq_true rfl) (Nat.le_of_ble_eq_true rfl) rfl (Nat.le_of_ble_eq_true rfl) ?_
              refine jr_ti (b := (valv w ((rd w 12 360) (k - 1)))) (Vu _) ?_
              refine jr_iload F dX5_meets_209 rfl ?_
              refine jr_iload F dX5_meets_211 rfl ?_
              refine jr_sL F dX5_meets_213 cs_X5_57 (c_X5_compared (by omega) (by omega) (by unfold numv; split <;> omega)) rfl (Nat.le_of_ble_eq_true rfl) (Nat.le_of_ble_eq_true rfl) rfl (Nat.le_of_ble_eq_true rfl) ?_
              refine jr_tl (b := ((evC (valv w) (rd w 12 360) e k : Nat) : Int)) (by have := cmpv_R (valv w ((rd w 12 360) (k - 1))) ((rd w 12 360) k) (numv ((rd w 12 360) (k + 1)) (if k + 2 < e then (rd w 12 360) (k + 2) else -1)); unfold evC; first | (rw [if_pos (by omega)] at this ⊢; omega) | (rw [if_neg (by omega)] at this ⊢; omega)) ?_
              refine jr_vU F dX5_meets_216 cv_X5_45 (c_X5_take (q := q) (n := evC (valv w) (rd w 12 360) e k) iq (qlt_up hb (by omega)) (by unfold evC; have := cmpv_R (valv w ((rd w 12 360) (k - 1))) ((rd w 12 360) k) (numv ((rd w 12 360) (k + 1)) (if k + 2 < e then (rd w 12 360) (k + 2) else -1)); omega)) (Nat.le_of_ble_eq_true rfl) rfl rfl rfl rfl (Nat.le_of_ble_eq_true rfl) (Nat.le_of_ble_eq_true rfl) rfl (Nat.le_of_ble_eq_true rfl) (fun w216 h216 => ?_)
              refine jr_goto (tgt := 222) F dX5_meets_219 (by decide) ?_
              refine jr_iinc F dX5_meets_222 rfl (Nat.le_of_ble_eq_true rfl) rfl ?_
              refine jr_goto (tgt := 18) F dX5_meets_225 (by decide) ?_
              exact jr_sub (ih18 _ (k + 1) (qT (evC (valv w) (rd w 12 360) e k) q) (by omega) (by omega) (by omega) (by have := evL_lt (o := valv w) (L := (rd w 12 360)) (e := e) (k := k) hb; rw [hev] at this; rw [show (k + 1 - s).toNat = (k - s).toNat + 1 by omega]; exact this) (by rw [h216]; subst hu; rw [s17_s]) (by rw [hv]; exact evS_s c21 hev)) ⟨rfl, rfl, rfl, rfl, rfl, trivial⟩
            · skip
              refine jr_aload_n F dX5_meets_167 rfl ?_
              refine jr_iload F dX5_meets_168 rfl ?_
              refine jr_iconst F dX5_meets_170 ?_
              refine jr_iadd F dX5_meets_171 ?_
              refine jr_nI F dX5_meets_172 cn_X5_34 (c_X7_at (Nat.le_of_ble_eq_true rfl) rfl (by omega) (by omega)) rfl (Nat.le_of_ble_eq_true rfl) (Nat.le_of_ble_eq_true rfl) rfl (Nat.le_of_ble_eq_true rfl) ?_
              refine jr_ti (b := ((rd w 12 360) (k + 2))) (Lu (k + 2)) ?_
              refine jr_goto (tgt := 179) F dX5_meets_175 (by decide) ?_
              refine jr_istore F dX5_meets_179 (Nat.le_of_ble_eq_true rfl) rfl ?_
              refine jr_aload_n F dX5_meets_181 rfl ?_
              refine jr_iload F dX5_meets_182 rfl ?_
              refine jr_iconst F dX5_meets_184 ?_
              refine jr_iadd F dX5_meets_185 ?_
              refine jr_nI F dX5_meets_186 cn_X5_34 (c_X7_at (Nat.le_of_ble_eq_true rfl) rfl (by omega) (by omega)) rfl (Nat.le_of_ble_eq_true rfl) (Nat.le_of_ble_eq_true rfl) rfl (Nat.le_of_ble_eq_true rfl) ?_
              refine jr_ti (b := ((rd w 12 360) (k + 1))) (Lu (k + 1)) ?_
              refine jr_iload F dX5_meets_189 rfl ?_
              refine jr_sI F dX5_meets_191 cs_X5_49 (c_X5_numberOf (by omega) (by omega)) rfl (Nat.le_of_ble_eq_true rfl) (Nat.le_of_ble_eq_true rfl) rfl (Nat.le_of_ble_eq_true rfl) ?_
              refine jr_istore F dX5_meets_194 (Nat.le_of_ble_eq_true rfl) rfl ?_
              refine jr_aload_n F dX5_meets_196 rfl ?_
              refine jr_aload_n F dX5_meets_197 rfl ?_
              refine jr_aload_n F dX5_meets_198 rfl ?_
              refine jr_iload F dX5_meets_199 rfl ?_
              refine jr_iconst F dX5_meets_201 ?_
              refine jr_isub F dX5_meets_202 ?_
              refine jr_nI F dX5_meets_203 cn_X5_34 (c_X7_at (Nat.le_of_ble_eq_true rfl) rfl (by omega) (by omega)) rfl (Nat.le_of_ble_eq_true rfl) (Nat.le_of_ble_eq_true rfl) rfl (Nat.le_of_ble_eq_true rfl) ?_
              refine jr_ti (b := ((rd w 12 360) (k - 1))) (Lu (k - 1)) ?_
              refine jr_vI F dX5_meets_206 cv_X5_53 (c_X5_valueOf (by omega)) (Nat.le_of_ble_eq_true rfl) rfl rfl rfl rfl (Nat.le_of_ble_eq_true rfl) (Nat.le_of_ble_eq_true rfl) rfl (Nat.le_of_ble_eq_true rfl) ?_
              refine jr_ti (b := (valv w ((rd w 12 360) (k - 1)))) (Vu _) ?_
              refine jr_iload F dX5_meets_209 rfl ?_
              refine jr_iload F dX5_meets_211 rfl ?_
              refine jr_sL F dX5_meets_213 cs_X5_57 (c_X5_compared (by omega) (by omega) (by unfold numv; split <;> omega)) rfl (Nat.le_of_ble_eq_true rfl) (Nat.le_of_ble_eq_true rfl) rfl (Nat.le_of_ble_eq_true rfl) ?_
              refine jr_tl (b := ((evC (valv w) (rd w 12 360) e k : Nat) : Int)) (by have := cmpv_R (valv w ((rd w 12 360) (k - 1))) ((rd w 12 360) k) (numv ((rd w 12 360) (k + 1)) (if k + 2 < e then (rd w 12 360) (k + 2) else -1)); unfold evC; first | (rw [if_pos (by omega)] at this ⊢; omega) | (rw [if_neg (by omega)] at this ⊢; omega)) ?_
              refine jr_vU F dX5_meets_216 cv_X5_45 (c_X5_take (q := q) (n := evC (valv w) (rd w 12 360) e k) iq (qlt_up hb (by omega)) (by unfold evC; have := cmpv_R (valv w ((rd w 12 360) (k - 1))) ((rd w 12 360) k) (numv ((rd w 12 360) (k + 1)) (if k + 2 < e then (rd w 12 360) (k + 2) else -1)); omega)) (Nat.le_of_ble_eq_true rfl) rfl rfl rfl rfl (Nat.le_of_ble_eq_true rfl) (Nat.le_of_ble_eq_true rfl) rfl (Nat.le_of_ble_eq_true rfl) (fun w216 h216 => ?_)
              refine jr_goto (tgt := 222) F dX5_meets_219 (by decide) ?_
              refine jr_iinc F dX5_meets_222 rfl (Nat.le_of_ble_eq_true rfl) rfl ?_
              refine jr_goto (tgt := 18) F dX5_meets_225 (by decide) ?_
              exact jr_sub (ih18 _ (k + 1) (qT (evC (valv w) (rd w 12 360) e k) q) (by omega) (by omega) (by omega) (by have := evL_lt (o := valv w) (L := (rd w 12 360)) (e := e) (k := k) hb; rw [hev] at this; rw [show (k + 1 - s).toNat = (k - s).toNat + 1 by omega]; exact this) (by rw [h216]; subst hu; rw [s17_s]) (by rw [hv]; exact evS_s c21 hev)) ⟨rfl, rfl, rfl, rfl, rfl, trivial⟩
          · refine jr_look (tgt := 131) (off := 97) F dX5_meets_34 (by decide) (by rw [c34]; decide) (by decide) (by omega) ?_
            have hev : evL (valv w) (rd w 12 360) e k q = qB q := by unfold evL; rw [if_neg (by omega), if_neg (by omega), if_neg (by omega), if_pos (by omega)]
            have n1 : q.2.1 &&& 1 ≤ 1 := Nat.and_le_right
            have m4 : q.1 ||| (q.2.1 &&& 1) < 2 ^ 62 := Nat.or_lt_two_pow (by omega) (by omega)
            refine jr_aload_n F dX5_meets_131 rfl ?_
            refine jr_dup F dX5_meets_132 rfl ?_
            refine jr_getLx F (q.1 : Int) dX5_meets_133 fg_X5_24 (Nat.le_of_ble_eq_true rfl) rfl rfl a4 (fun q133 => ?_)
            refine jr_aload_n F dX5_meets_136 rfl ?_
            refine jr_getLx F (q.2.1 : Int) dX5_meets_137 fg_X5_28 (Nat.le_of_ble_eq_true rfl) rfl rfl a5 (fun q137 => ?_)
            refine jr_lconst (z := 1) F dX5_meets_140 (by decide) ?_
            refine jr_land F dX5_meets_141 ?_
            refine jr_topl (z := ((q.2.1 &&& 1 : Nat) : Int)) F (hl_and (b := 1) (by omega) (by omega)) ?_
            refine jr_lor F dX5_meets_142 ?_
            refine jr_topl (z := ((q.1 ||| (q.2.1 &&& 1) : Nat) : Int)) F (hl_or (by omega) (by omega)) ?_
            refine jr_putLx F dX5_meets_143 fp_X5_24 (Nat.le_of_ble_eq_true rfl) rfl rfl (by have := (q63 (qlt_B hb) (by omega)).1; simp only [qB] at this; omega) (fun w143 e143 => ?_)
            refine jr_aload_n F dX5_meets_146 rfl ?_
            refine jr_dup F dX5_meets_147 rfl ?_
            refine jr_getLx F (q.2.1 : Int) dX5_meets_148 fg_X5_28 (Nat.le_of_ble_eq_true rfl) rfl rfl (by subst e143; exact a5) (fun q148 => ?_)
            refine jr_lconst (z := 1) F dX5_meets_151 (by decide) ?_
            refine jr_lor F dX5_meets_152 ?_
            refine jr_topl (z := ((q.2.1 ||| 1 : Nat) : Int)) F (hl_or (b := 1) (by omega) (by omega)) ?_
            refine jr_putLx F dX5_meets_153 fp_X5_28 (Nat.le_of_ble_eq_true rfl) rfl rfl (by have := (q63 (qlt_B hb) (by omega)).2.1; simp only [qB] at this; omega) (fun w153 e153 => ?_)
            refine jr_goto (tgt := 222) F dX5_meets_156 (by decide) ?_
            refine jr_iinc F dX5_meets_222 rfl (Nat.le_of_ble_eq_true rfl) rfl ?_
            refine jr_goto (tgt := 18) F dX5_meets_225 (by decide) ?_
            exact jr_sub (ih18 _ (k + 1) (qB q) (by omega) (by omega) (by omega) (by have := evL_lt (o := valv w) (L := (rd w 12 360)) (e := e) (k := k) hb; rw [hev] at this; rw [show (k + 1 - s).toNat = (k - s).toNat + 1 by omega]; exact this) (by subst e153; subst e143; subst hu; exact s17_of rfl rfl rfl (fun k i h => by rw [up_ne (by omega), up_ne (by omega)]; unfold s17; rw [up_ne (by omega), up_ne (by omega), up_ne (by omega)])) (by rw [hv]; exact evS_s c21 hev)) ⟨rfl, rfl, rfl, rfl, rfl, trivial⟩
          · refine jr_look (tgt := 222) (off := 188) F dX5_meets_34 (by decide) (by simp only [Op.lookupswitch.offset]; (repeat' split) <;> first | rfl | omega) (by decide) (by omega) ?_
            have hev : evL (valv w) (rd w 12 360) e k q = q := by unfold evL; rw [if_neg (by omega), if_neg (by omega), if_neg (by omega), if_neg (by omega), if_neg (by omega)]
            refine jr_iinc F dX5_meets_222 rfl (Nat.le_of_ble_eq_true rfl) rfl ?_
            refine jr_goto (tgt := 18) F dX5_meets_225 (by decide) ?_
            exact jr_sub (ih18 _ (k + 1) (q) (by omega) (by omega) (by omega) (by have := evL_lt (o := valv w) (L := (rd w 12 360)) (e := e) (k := k) hb; rw [hev] at this; rw [show (k + 1 - s).toNat = (k - s).toNat + 1 by omega]; exact this) (by exact hu) (by rw [hv]; exact evS_s c21 hev)) ⟨rfl, rfl, rfl, rfl, rfl, trivial⟩
  exact jr_sub (L18 _ _ s (0, 1, 0) (Nat.lt_succ_self _) (by omega) (by omega) ⟨by simp, by simp, by simp⟩ (by subst e12; subst e7; subst e2; rfl) rfl) ⟨rfl, rfl, rfl, rfl, rfl, trivial⟩

set_option maxRecDepth 100000 in
set_option maxHeartbeats 4000000 in
theorem c_X5_meets_15 {B : Bs} {w : Wd} {s e : Int} (hs : 0 ≤ s ∧ s ≤ 1000) (he : -10 ≤ e ∧ e ≤ 1000) (hse : e - s ≤ 58) (hL : ∀ p : Int, -1 ≤ rd w 15 360 p ∧ rd w 15 360 p ≤ 126) : Sp (GX B) 2 yX5_meets cX5_meets 8 (Option.some FieldType.boolean) [.ref (ga (GX B) (17)), .ref (ga (GX B) (15)), iv (s), iv (e)] w (pB (qV (evR (valv w) (rd w 15 360) s e) = 1) (fun u => ∃ q, u = s17 w q)) := by
  refine Sp.of (by decide) (Nat.le_of_ble_eq_true rfl) (fun X F => ?_)
  show Jw (GX B) X _ 0 [some (.ref (ga (GX B) (17))), some (.ref (ga (GX B) (15))), some (iv (s)), some (iv (e))] [] w
  refine jr_aload_n F dX5_meets_0 rfl ?_
  refine jr_lconst (z := 0) F dX5_meets_1 (by decide) ?_
  refine jr_putLx F dX5_meets_2 fp_X5_24 (Nat.le_of_ble_eq_true rfl) rfl rfl (by omega) (fun w2 e2 => ?_)
  refine jr_aload_n F dX5_meets_5 rfl ?_
  refine jr_lconst (z := 1) F dX5_meets_6 (by decide) ?_
  refine jr_putLx F dX5_meets_7 fp_X5_28 (Nat.le_of_ble_eq_true rfl) rfl rfl (by omega) (fun w7 e7 => ?_)
  refine jr_aload_n F dX5_meets_10 rfl ?_
  refine jr_lconst (z := 0) F dX5_meets_11 (by decide) ?_
  refine jr_putLx F dX5_meets_12 fp_X5_31 (Nat.le_of_ble_eq_true rfl) rfl rfl (by omega) (fun w12 e12 => ?_)
  refine jr_iload_n F dX5_meets_15 rfl ?_
  refine jr_istore F dX5_meets_16 (Nat.le_of_ble_eq_true rfl) rfl ?_
  have L18 : ∀ (fuel : Nat) (u : Wd) (k : Int) (q : Q3), (e - k).toNat < fuel → (s ≤ k) → (k ≤ e ∨ k = s) → (qlt q ((k - s).toNat + 1)) → (u = s17 w q) → (evR (valv w) (rd w 15 360) s e = evS (valv w) (rd w 15 360) e (e - k).toNat k q) → Jw (GX B) X (pB (qV (evR (valv w) (rd w 15 360) s e) = 1) (fun u => ∃ q, u = s17 w q)) 18 [some (.ref (ga (GX B) 17)), some (.ref (ga (GX B) 15)), some (iv s), some (iv e), some (iv k)] [] u := by
    intro fuel
    induction fuel with
    | zero => intro u k q hfuel; exact absurd hfuel (Nat.not_lt_zero _)
    | succ fuel ih18 =>
        intro u k q hfuel k0 k1 hb hu hv
        refine jr_ok (fun hO => ?_)
        have iq : isQ u q := by subst hu; exact s17_q w q
        obtain ⟨a4, a5, a6⟩ := id iq
        obtain ⟨b4, b5, b6⟩ := q63 hb (by omega)
        have Lk := hL k
        have Lu : ∀ p : Int, rd u 15 360 p = rd w 15 360 p := fun p => rd_c (by subst hu; exact s17_c w q (by decide)) _ p
        have Vu : ∀ x : Int, valv u x = valv w x := fun x => by subst hu; rfl
        refine jr_iload F dX5_meets_18 rfl ?_
        refine jr_iload_n F dX5_meets_20 rfl ?_
        refine jr_icmp_ge (tgt := 228) F dX5_meets_21 (by decide) (fun c21 => ?_) (fun c21 => ?_) (by omega) (by omega)
        · skip
          have hq1 : qV (evR (valv w) (rd w 15 360) s e) = qV q := by rw [hv, show (e - k).toNat = 0 by omega, evS]
          have hV := qV_R q
          have m4 : q.1 ||| q.2.1 < 2 ^ 62 := Nat.or_lt_two_pow (by omega) (by omega)
          refine jr_aload_n F dX5_meets_228 rfl ?_
          refine jr_getLx F (q.1 : Int) dX5_meets_229 fg_X5_24 (Nat.le_of_ble_eq_true rfl) rfl rfl a4 (fun q229 => ?_)
          refine jr_aload_n F dX5_meets_232 rfl ?_
          refine jr_getLx F (q.2.1 : Int) dX5_meets_233 fg_X5_28 (Nat.le_of_ble_eq_true rfl) rfl rfl a5 (fun q233 => ?_)
          refine jr_lor F dX5_meets_236 ?_
          refine jr_topl (z := ((q.1 ||| q.2.1 : Nat) : Int)) F (hl_or (by omega) (by omega)) ?_
          refine jr_lconst (z := 1) F dX5_meets_237 (by decide) ?_
          refine jr_land F dX5_meets_238 ?_
          refine jr_topl (z := ((qV q : Nat) : Int)) F (hl_and (b := 1) (by omega) (by omega)) ?_
          refine jr_lconst (z := 1) F dX5_meets_239 (by decide) ?_
          refine jr_lcmp F dX5_meets_240 ?_
          refine jr_top (z := cmpI ((qV q : Nat) : Int) 1) F (l64_cmp (by have := qV_R q; omega) (by omega)) ?_
          refine jr_if_ne (tgt := 248) F dX5_meets_241 (by decide) (fun c241 => ?_) (fun c241 => ?_) (by have := cmpI_R ((qV q : Nat) : Int) 1; omega)
          · skip
            refine jr_iconst F dX5_meets_248 ?_
            exact jr_zret F dX5_meets_249 (pB_of (bi_f (by rw [hq1]; rw [cmpI_0] at c241; omega)).symm ⟨q, hu⟩) (by omega)
          · skip
            refine jr_iconst F dX5_meets_244 ?_
            refine jr_goto (tgt := 249) F dX5_meets_245 (by decide) ?_
            exact jr_zret F dX5_meets_249 (pB_of (bi_t (by rw [hq1]; rw [cmpI_0] at c241; omega)).symm ⟨q, hu⟩) (by omega)
        · skip
          refine jr_aload_n F dX5_meets_24 rfl ?_
          refine jr_iload F dX5_meets_25 rfl ?_
          refine jr_nI F dX5_meets_27 cn_X5_34 (c_X7_at (Nat.le_of_ble_eq_true rfl) rfl (by omega) (by omega)) rfl (Nat.le_of_ble_eq_true rfl) (Nat.le_of_ble_eq_true rfl) rfl (Nat.le_of_ble_eq_true rfl) ?_
          refine jr_ti (b := ((rd w 15 360) k)) (Lu k) ?_
          refine jr_istore F dX5_meets_30 (Nat.le_of_ble_eq_true rfl) rfl ?_
          refine jr_iload F dX5_meets_32 rfl ?_
          rcases (show ((rd w 15 360) k) = 33 ∨ ((rd w 15 360) k) = 40 ∨ ((rd w 15 360) k) = 41 ∨ ((rd w 15 360) k) = 60 ∨ ((rd w 15 360) k) = 61 ∨ ((rd w 15 360) k) = 62 ∨ ((rd w 15 360) k) = 124 ∨ (¬ ((rd w 15 360) k) = 33 ∧ ¬ ((rd w 15 360) k) = 40 ∧ ¬ ((rd w 15 360) k) = 41 ∧ ¬ ((rd w 15 360) k) = 60 ∧ ¬ ((rd w 15 360) k) = 61 ∧ ¬ ((rd w 15 360) k) = 62 ∧ ¬ ((rd w 15 360) k) = 124) by omega) with c34 | c34 | c34 | c34 | c34 | c34 | c34 | c34
          · refine jr_look (tgt := 100) (off := 66) F dX5_meets_34 (by decide) (by rw [c34]; decide) (by decide) (by omega) ?_
            have hev : evL (valv w) (rd w 15 360) e k q = qN q := by unfold evL; rw [if_pos (by omega)]
            have n1 : q.2.2 &&& 1 ≤ 1 := Nat.and_le_right
            refine jr_aload_n F dX5_meets_100 rfl ?_
            refine jr_dup F dX5_meets_101 rfl ?_
            refine jr_getLx F (q.2.2 : Int) dX5_meets_102 fg_X5_31 (Nat.le_of_ble_eq_true rfl) rfl rfl a6 (fun q102 => ?_)
            refine jr_lconst (z := 1) F dX5_meets_105 (by decide) ?_
            refine jr_lxor F dX5_meets_106 ?_
            refine jr_topl (z := ((q.2.2 ^^^ 1 : Nat) : Int)) F (hl_xor (b := 1) (by omega) (by omega)) ?_
            refine jr_putLx F dX5_meets_107 fp_X5_31 (Nat.le_of_ble_eq_true rfl) rfl rfl (by have := (qlt_N hb).2.2; simp only [qN] at this; have := (qlt_up (q := qN q) (qlt_N hb) (show (k - s).toNat + 1 ≤ 62 by omega)).2.2; simp only [qN] at this; omega) (fun w107 e107 => ?_)
            refine jr_goto (tgt := 222) F dX5_meets_110 (by decide) ?_
            refine jr_iinc F dX5_meets_222 rfl (Nat.le_of_ble_eq_true rfl) rfl ?_
            refine jr_goto (tgt := 18) F dX5_meets_225 (by decide) ?_
            exact jr_sub (ih18 _ (k + 1) (qN q) (by omega) (by omega) (by omega) (by have := evL_lt (o := valv w) (L := (rd w 15 360)) (e := e) (k := k) hb; rw [hev] at this; rw [show (k + 1 - s).toNat = (k - s).toNat + 1 by omega]; exact this) (by subst e107; subst hu; exact s17_of rfl rfl (up_self _ _ _ _) (fun k i h => by rw [up_ne (by omega)]; unfold s17; rw [up_ne (by omega), up_ne (by omega), up_ne (by omega)])) (by rw [hv]; exact evS_s c21 hev)) ⟨rfl, rfl, rfl, rfl, rfl, trivial⟩
          · refine jr_look (tgt := 113) (off := 79) F dX5_meets_34 (by decide) (by rw [c34]; decide) (by decide) (by omega) ?_
            have hev : evL (valv w) (rd w 15 360) e k q = qP q := by unfold evL; rw [if_neg (by omega), if_pos (by omega)]
            refine jr_aload_n F dX5_meets_113 rfl ?_
            refine jr_vVx F dX5_meets_114 cv_X5_38 (c_X5_begin (q := q) iq (qlt_up hb (by omega))) (Nat.le_of_ble_eq_true rfl) rfl rfl rfl rfl (Nat.le_of_ble_eq_true rfl) (Nat.le_of_ble_eq_true rfl) rfl (Nat.le_of_ble_eq_true rfl) (fun w114 e114 => ?_)
            refine jr_goto (tgt := 222) F dX5_meets_117 (by decide) ?_
            refine jr_iinc F dX5_meets_222 rfl (Nat.le_of_ble_eq_true rfl) rfl ?_
            refine jr_goto (tgt := 18) F dX5_meets_225 (by decide) ?_
            exact jr_sub (ih18 _ (k + 1) (qP q) (by omega) (by omega) (by omega) (by have := evL_lt (o := valv w) (L := (rd w 15 360)) (e := e) (k := k) hb; rw [hev] at this; rw [show (k + 1 - s).toNat = (k - s).toNat + 1 by omega]; exact this) (by subst e114; subst hu; exact s17_s _ _ _) (by rw [hv]; exact evS_s c21 hev)) ⟨rfl, rfl, rfl, rfl, rfl, trivial⟩
          · refine jr_look (tgt := 120) (off := 86) F dX5_meets_34 (by decide) (by rw [c34]; decide) (by decide) (by omega) ?_
            have hev : evL (valv w) (rd w 15 360) e k q = qE q := by unfold evL; rw [if_neg (by omega), if_neg (by omega), if_pos (by omega)]
            refine jr_aload_n F dX5_meets_120 rfl ?_
            refine jr_aload_n F dX5_meets_121 rfl ?_
            refine jr_vLx F dX5_meets_122 cv_X5_41 (c_X5_end (q := q) iq (qlt_up hb (by omega))) (Nat.le_of_ble_eq_true rfl) rfl rfl rfl rfl (Nat.le_of_ble_eq_true rfl) (Nat.le_of_ble_eq_true rfl) rfl (Nat.le_of_ble_eq_true rfl) (fun w122 e122 => ?_)
            refine jr_vU F dX5_meets_125 cv_X5_45 (c_X5_take (q := qH q) (n := qV q) (by subst e122; exact s17_q _ _) (qlt_H (qlt_up hb (by omega))) (qV_R q)) (Nat.le_of_ble_eq_true rfl) rfl rfl rfl rfl (Nat.le_of_ble_eq_true rfl) (Nat.le_of_ble_eq_true rfl) rfl (Nat.le_of_ble_eq_true rfl) (fun w125 h125 => ?_)
            refine jr_goto (tgt := 222) F dX5_meets_128 (by decide) ?_
            refine jr_iinc F dX5_meets_222 rfl (Nat.le_of_ble_eq_true rfl) rfl ?_
            refine jr_goto (tgt := 18) F dX5_meets_225 (by decide) ?_
            exact jr_sub (ih18 _ (k + 1) (qE q) (by omega) (by omega) (by omega) (by have := evL_lt (o := valv w) (L := (rd w 15 360)) (e := e) (k := k) hb; rw [hev] at this; rw [show (k + 1 - s).toNat = (k - s).toNat + 1 by omega]; exact this) (by rw [h125]; subst e122; subst hu; rw [s17_s, s17_s]; rfl) (by rw [hv]; exact evS_s c21 hev)) ⟨rfl, rfl, rfl, rfl, rfl, trivial⟩
          · refine jr_look (tgt := 159) (off := 125) F dX5_meets_34 (by decide) (by rw [c34]; decide) (by decide) (by omega) ?_
            have hev : evL (valv w) (rd w 15 360) e k q = qT (evC (valv w) (rd w 15 360) e k) q := by unfold evL; rw [if_neg (by omega), if_neg (by omega), if_neg (by omega), if_neg (by omega), if_pos (by omega)]
            have L1 := hL (k + 1)
            have L2 := hL (k + 2)
            have L9 := hL (k - 1)
            have Vr := valv_R hO
            have V1 : inR (valv w ((rd w 15 360) (k - 1))) := by rw [← Vu]; exact Vr _
            refine jr_iload F dX5_meets_159 rfl ?_
            refine jr_iconst F dX5_meets_161 ?_
            refine jr_iadd F dX5_meets_162 ?_
            refine jr_iload_n F dX5_meets_163 rfl ?_
            refine jr_icmp_ge (tgt := 178) F dX5_meets_164 (by decide) (fun c164 => ?_) (fun c164 => ?_) (by omega) (by omega)
            · skip
              refine jr_iconst F dX5_meets_178 ?_
              refine jr_istore F dX5_meets_179 (Nat.le_of_ble_eq_true rfl) rfl ?_
              refine jr_aload_n F dX5_meets_181 rfl ?_
              refine jr_iload F dX5_meets_182 rfl ?_
              refine jr_iconst F dX5_meets_184 ?_
              refine jr_iadd F dX5_meets_185 ?_
              refine jr_nI F dX5_meets_186 cn_X5_34 (c_X7_at (Nat.le_of_ble_eq_true rfl) rfl (by omega) (by omega)) rfl (Nat.le_of_ble_eq_true rfl) (Nat.le_of_ble_eq_true rfl) rfl (Nat.le_of_ble_eq_true rfl) ?_
              refine jr_ti (b := ((rd w 15 360) (k + 1))) (Lu (k + 1)) ?_
              refine jr_iload F dX5_meets_189 rfl ?_
              refine jr_sI F dX5_meets_191 cs_X5_49 (c_X5_numberOf (by omega) (by omega)) rfl (Nat.le_of_ble_eq_true rfl) (Nat.le_of_ble_eq_true rfl) rfl (Nat.le_of_ble_eq_true rfl) ?_
              refine jr_istore F dX5_meets_194 (Nat.le_of_ble_eq_true rfl) rfl ?_
              refine jr_aload_n F dX5_meets_196 rfl ?_
              refine jr_aload_n F dX5_meets_197 rfl ?_
              refine jr_aload_n F dX5_meets_198 rfl ?_
              refine jr_iload F dX5_meets_199 rfl ?_
              refine jr_iconst F dX5_meets_201 ?_
              refine jr_isub F dX5_meets_202 ?_
              refine jr_nI F dX5_meets_203 cn_X5_34 (c_X7_at (Nat.le_of_ble_eq_true rfl) rfl (by omega) (by omega)) rfl (Nat.le_of_ble_eq_true rfl) (Nat.le_of_ble_eq_true rfl) rfl (Nat.le_of_ble_eq_true rfl) ?_
              refine jr_ti (b := ((rd w 15 360) (k - 1))) (Lu (k - 1)) ?_
              refine jr_vI F dX5_meets_206 cv_X5_53 (c_X5_valueOf (by omega)) (Nat.le_of_ble_eq_true rfl) rfl rfl rfl rfl (Nat.le_of_ble_eq_true rfl) (Nat.le_of_ble_eq_true rfl) rfl (Nat.le_of_ble_eq_true rfl) ?_
              refine jr_ti (b := (valv w ((rd w 15 360) (k - 1)))) (Vu _) ?_
              refine jr_iload F dX5_meets_209 rfl ?_
              refine jr_iload F dX5_meets_211 rfl ?_
              refine jr_sL F dX5_meets_213 cs_X5_57 (c_X5_compared (by omega) (by omega) (by unfold numv; split <;> omega)) rfl (Nat.le_of_ble_eq_true rfl) (Nat.le_of_ble_eq_true rfl) rfl (Nat.le_of_ble_eq_true rfl) ?_
              refine jr_tl (b := ((evC (valv w) (rd w 15 360) e k : Nat) : Int)) (by have := cmpv_R (valv w ((rd w 15 360) (k - 1))) ((rd w 15 360) k) (numv ((rd w 15 360) (k + 1)) (if k + 2 < e then (rd w 15 360) (k + 2) else -1)); unfold evC; first | (rw [if_pos (by omega)] at this ⊢; omega) | (rw [if_neg (by omega)] at this ⊢; omega)) ?_
              refine jr_vU F dX5_meets_216 cv_X5_45 (c_X5_take (q := q) (n := evC (valv w) (rd w 15 360) e k) iq (qlt_up hb (by omega)) (by unfold evC; have := cmpv_R (valv w ((rd w 15 360) (k - 1))) ((rd w 15 360) k) (numv ((rd w 15 360) (k + 1)) (if k + 2 < e then (rd w 15 360) (k + 2) else -1)); omega)) (Nat.le_of_ble_eq_true rfl) rfl rfl rfl rfl (Nat.le_of_ble_eq_true rfl) (Nat.le_of_ble_eq_true rfl) rfl (Nat.le_of_ble_eq_true rfl) (fun w216 h216 => ?_)
              refine jr_goto (tgt := 222) F dX5_meets_219 (by decide) ?_
              refine jr_iinc F dX5_meets_222 rfl (Nat.le_of_ble_eq_true rfl) rfl ?_
              refine jr_goto (tgt := 18) F dX5_meets_225 (by decide) ?_
              exact jr_sub (ih18 _ (k + 1) (qT (evC (valv w) (rd w 15 360) e k) q) (by omega) (by omega) (by omega) (by have := evL_lt (o := valv w) (L := (rd w 15 360)) (e := e) (k := k) hb; rw [hev] at this; rw [show (k + 1 - s).toNat = (k - s).toNat + 1 by omega]; exact this) (by rw [h216]; subst hu; rw [s17_s]) (by rw [hv]; exact evS_s c21 hev)) ⟨rfl, rfl, rfl, rfl, rfl, trivial⟩
            · skip
              refine jr_aload_n F dX5_meets_167 rfl ?_
              refine jr_iload F dX5_meets_168 rfl ?_
              refine jr_iconst F dX5_meets_170 ?_
              refine jr_iadd F dX5_meets_171 ?_
              refine jr_nI F dX5_meets_172 cn_X5_34 (c_X7_at (Nat.le_of_ble_eq_true rfl) rfl (by omega) (by omega)) rfl (Nat.le_of_ble_eq_true rfl) (Nat.le_of_ble_eq_true rfl) rfl (Nat.le_of_ble_eq_true rfl) ?_
              refine jr_ti (b := ((rd w 15 360) (k + 2))) (Lu (k + 2)) ?_
              refine jr_goto (tgt := 179) F dX5_meets_175 (by decide) ?_
              refine jr_istore F dX5_meets_179 (Nat.le_of_ble_eq_true rfl) rfl ?_
              refine jr_aload_n F dX5_meets_181 rfl ?_
              refine jr_iload F dX5_meets_182 rfl ?_
              refine jr_iconst F dX5_meets_184 ?_
              refine jr_iadd F dX5_meets_185 ?_
              refine jr_nI F dX5_meets_186 cn_X5_34 (c_X7_at (Nat.le_of_ble_eq_true rfl) rfl (by omega) (by omega)) rfl (Nat.le_of_ble_eq_true rfl) (Nat.le_of_ble_eq_true rfl) rfl (Nat.le_of_ble_eq_true rfl) ?_
              refine jr_ti (b := ((rd w 15 360) (k + 1))) (Lu (k + 1)) ?_
              refine jr_iload F dX5_meets_189 rfl ?_
              refine jr_sI F dX5_meets_191 cs_X5_49 (c_X5_numberOf (by omega) (by omega)) rfl (Nat.le_of_ble_eq_true rfl) (Nat.le_of_ble_eq_true rfl) rfl (Nat.le_of_ble_eq_true rfl) ?_
              refine jr_istore F dX5_meets_194 (Nat.le_of_ble_eq_true rfl) rfl ?_
              refine jr_aload_n F dX5_meets_196 rfl ?_
              refine jr_aload_n F dX5_meets_197 rfl ?_
              refine jr_aload_n F dX5_meets_198 rfl ?_
              refine jr_iload F dX5_meets_199 rfl ?_
              refine jr_iconst F dX5_meets_201 ?_
              refine jr_isub F dX5_meets_202 ?_
              refine jr_nI F dX5_meets_203 cn_X5_34 (c_X7_at (Nat.le_of_ble_eq_true rfl) rfl (by omega) (by omega)) rfl (Nat.le_of_ble_eq_true rfl) (Nat.le_of_ble_eq_true rfl) rfl (Nat.le_of_ble_eq_true rfl) ?_
              refine jr_ti (b := ((rd w 15 360) (k - 1))) (Lu (k - 1)) ?_
              refine jr_vI F dX5_meets_206 cv_X5_53 (c_X5_valueOf (by omega)) (Nat.le_of_ble_eq_true rfl) rfl rfl rfl rfl (Nat.le_of_ble_eq_true rfl) (Nat.le_of_ble_eq_true rfl) rfl (Nat.le_of_ble_eq_true rfl) ?_
              refine jr_ti (b := (valv w ((rd w 15 360) (k - 1)))) (Vu _) ?_
              refine jr_iload F dX5_meets_209 rfl ?_
              refine jr_iload F dX5_meets_211 rfl ?_
              refine jr_sL F dX5_meets_213 cs_X5_57 (c_X5_compared (by omega) (by omega) (by unfold numv; split <;> omega)) rfl (Nat.le_of_ble_eq_true rfl) (Nat.le_of_ble_eq_true rfl) rfl (Nat.le_of_ble_eq_true rfl) ?_
              refine jr_tl (b := ((evC (valv w) (rd w 15 360) e k : Nat) : Int)) (by have := cmpv_R (valv w ((rd w 15 360) (k - 1))) ((rd w 15 360) k) (numv ((rd w 15 360) (k + 1)) (if k + 2 < e then (rd w 15 360) (k + 2) else -1)); unfold evC; first | (rw [if_pos (by omega)] at this ⊢; omega) | (rw [if_neg (by omega)] at this ⊢; omega)) ?_
              refine jr_vU F dX5_meets_216 cv_X5_45 (c_X5_take (q := q) (n := evC (valv w) (rd w 15 360) e k) iq (qlt_up hb (by omega)) (by unfold evC; have := cmpv_R (valv w ((rd w 15 360) (k - 1))) ((rd w 15 360) k) (numv ((rd w 15 360) (k + 1)) (if k + 2 < e then (rd w 15 360) (k + 2) else -1)); omega)) (Nat.le_of_ble_eq_true rfl) rfl rfl rfl rfl (Nat.le_of_ble_eq_true rfl) (Nat.le_of_ble_eq_true rfl) rfl (Nat.le_of_ble_eq_true rfl) (fun w216 h216 => ?_)
              refine jr_goto (tgt := 222) F dX5_meets_219 (by decide) ?_
              refine jr_iinc F dX5_meets_222 rfl (Nat.le_of_ble_eq_true rfl) rfl ?_
              refine jr_goto (tgt := 18) F dX5_meets_225 (by decide) ?_
              exact jr_sub (ih18 _ (k + 1) (qT (evC (valv w) (rd w 15 360) e k) q) (by omega) (by omega) (by omega) (by have := evL_lt (o := valv w) (L := (rd w 15 360)) (e := e) (k := k) hb; rw [hev] at this; rw [show (k + 1 - s).toNat = (k - s).toNat + 1 by omega]; exact this) (by rw [h216]; subst hu; rw [s17_s]) (by rw [hv]; exact evS_s c21 hev)) ⟨rfl, rfl, rfl, rfl, rfl, trivial⟩
          · refine jr_look (tgt := 159) (off := 125) F dX5_meets_34 (by decide) (by rw [c34]; decide) (by decide) (by omega) ?_
            have hev : evL (valv w) (rd w 15 360) e k q = qT (evC (valv w) (rd w 15 360) e k) q := by unfold evL; rw [if_neg (by omega), if_neg (by omega), if_neg (by omega), if_neg (by omega), if_pos (by omega)]
            have L1 := hL (k + 1)
            have L2 := hL (k + 2)
            have L9 := hL (k - 1)
            have Vr := valv_R hO
            have V1 : inR (valv w ((rd w 15 360) (k - 1))) := by rw [← Vu]; exact Vr _
            refine jr_iload F dX5_meets_159 rfl ?_
            refine jr_iconst F dX5_meets_161 ?_
            refine jr_iadd F dX5_meets_162 ?_
            refine jr_iload_n F dX5_meets_163 rfl ?_
            refine jr_icmp_ge (tgt := 178) F dX5_meets_164 (by decide) (fun c164 => ?_) (fun c164 => ?_) (by omega) (by omega)
            · skip
              refine jr_iconst F dX5_meets_178 ?_
              refine jr_istore F dX5_meets_179 (Nat.le_of_ble_eq_true rfl) rfl ?_
              refine jr_aload_n F dX5_meets_181 rfl ?_
              refine jr_iload F dX5_meets_182 rfl ?_
              refine jr_iconst F dX5_meets_184 ?_
              refine jr_iadd F dX5_meets_185 ?_
              refine jr_nI F dX5_meets_186 cn_X5_34 (c_X7_at (Nat.le_of_ble_eq_true rfl) rfl (by omega) (by omega)) rfl (Nat.le_of_ble_eq_true rfl) (Nat.le_of_ble_eq_true rfl) rfl (Nat.le_of_ble_eq_true rfl) ?_
              refine jr_ti (b := ((rd w 15 360) (k + 1))) (Lu (k + 1)) ?_
              refine jr_iload F dX5_meets_189 rfl ?_
              refine jr_sI F dX5_meets_191 cs_X5_49 (c_X5_numberOf (by omega) (by omega)) rfl (Nat.le_of_ble_eq_true rfl) (Nat.le_of_ble_eq_true rfl) rfl (Nat.le_of_ble_eq_true rfl) ?_
              refine jr_istore F dX5_meets_194 (Nat.le_of_ble_eq_true rfl) rfl ?_
              refine jr_aload_n F dX5_meets_196 rfl ?_
              refine jr_aload_n F dX5_meets_197 rfl ?_
              refine jr_aload_n F dX5_meets_198 rfl ?_
              refine jr_iload F dX5_meets_199 rfl ?_
              refine jr_iconst F dX5_meets_201 ?_
              refine jr_isub F dX5_meets_202 ?_
              refine jr_nI F dX5_meets_203 cn_X5_34 (c_X7_at (Nat.le_of_ble_eq_true rfl) rfl (by omega) (by omega)) rfl (Nat.le_of_ble_eq_true rfl) (Nat.le_of_ble_eq_true rfl) rfl (Nat.le_of_ble_eq_true rfl) ?_
              refine jr_ti (b := ((rd w 15 360) (k - 1))) (Lu (k - 1)) ?_
              refine jr_vI F dX5_meets_206 cv_X5_53 (c_X5_valueOf (by omega)) (Nat.le_of_ble_eq_true rfl) rfl rfl rfl rfl (Nat.le_of_ble_eq_true rfl) (Nat.le_of_ble_eq_true rfl) rfl (Nat.le_of_ble_eq_true rfl) ?_
              refine jr_ti (b := (valv w ((rd w 15 360) (k - 1)))) (Vu _) ?_
              refine jr_iload F dX5_meets_209 rfl ?_
              refine jr_iload F dX5_meets_211 rfl ?_
              refine jr_sL F dX5_meets_213 cs_X5_57 (c_X5_compared (by omega) (by omega) (by unfold numv; split <;> omega)) rfl (Nat.le_of_ble_eq_true rfl) (Nat.le_of_ble_eq_true rfl) rfl (Nat.le_of_ble_eq_true rfl) ?_
              refine jr_tl (b := ((evC (valv w) (rd w 15 360) e k : Nat) : Int)) (by have := cmpv_R (valv w ((rd w 15 360) (k - 1))) ((rd w 15 360) k) (numv ((rd w 15 360) (k + 1)) (if k + 2 < e then (rd w 15 360) (k + 2) else -1)); unfold evC; first | (rw [if_pos (by omega)] at this ⊢; omega) | (rw [if_neg (by omega)] at this ⊢; omega)) ?_
              refine jr_vU F dX5_meets_216 cv_X5_45 (c_X5_take (q := q) (n := evC (valv w) (rd w 15 360) e k) iq (qlt_up hb (by omega)) (by unfold evC; have := cmpv_R (valv w ((rd w 15 360) (k - 1))) ((rd w 15 360) k) (numv ((rd w 15 360) (k + 1)) (if k + 2 < e then (rd w 15 360) (k + 2) else -1)); omega)) (Nat.le_of_ble_eq_true rfl) rfl rfl rfl rfl (Nat.le_of_ble_eq_true rfl) (Nat.le_of_ble_eq_true rfl) rfl (Nat.le_of_ble_eq_true rfl) (fun w216 h216 => ?_)
              refine jr_goto (tgt := 222) F dX5_meets_219 (by decide) ?_
              refine jr_iinc F dX5_meets_222 rfl (Nat.le_of_ble_eq_true rfl) rfl ?_
              refine jr_goto (tgt := 18) F dX5_meets_225 (by decide) ?_
              exact jr_sub (ih18 _ (k + 1) (qT (evC (valv w) (rd w 15 360) e k) q) (by omega) (by omega) (by omega) (by have := evL_lt (o := valv w) (L := (rd w 15 360)) (e := e) (k := k) hb; rw [hev] at this; rw [show (k + 1 - s).toNat = (k - s).toNat + 1 by omega]; exact this) (by rw [h216]; subst hu; rw [s17_s]) (by rw [hv]; exact evS_s c21 hev)) ⟨rfl, rfl, rfl, rfl, rfl, trivial⟩
            · skip
              refine jr_aload_n F dX5_meets_167 rfl ?_
              refine jr_iload F dX5_meets_168 rfl ?_
              refine jr_iconst F dX5_meets_170 ?_
              refine jr_iadd F dX5_meets_171 ?_
              refine jr_nI F dX5_meets_172 cn_X5_34 (c_X7_at (Nat.le_of_ble_eq_true rfl) rfl (by omega) (by omega)) rfl (Nat.le_of_ble_eq_true rfl) (Nat.le_of_ble_eq_true rfl) rfl (Nat.le_of_ble_eq_true rfl) ?_
              refine jr_ti (b := ((rd w 15 360) (k + 2))) (Lu (k + 2)) ?_
              refine jr_goto (tgt := 179) F dX5_meets_175 (by decide) ?_
              refine jr_istore F dX5_meets_179 (Nat.le_of_ble_eq_true rfl) rfl ?_
              refine jr_aload_n F dX5_meets_181 rfl ?_
              refine jr_iload F dX5_meets_182 rfl ?_
              refine jr_iconst F dX5_meets_184 ?_
              refine jr_iadd F dX5_meets_185 ?_
              refine jr_nI F dX5_meets_186 cn_X5_34 (c_X7_at (Nat.le_of_ble_eq_true rfl) rfl (by omega) (by omega)) rfl (Nat.le_of_ble_eq_true rfl) (Nat.le_of_ble_eq_true rfl) rfl (Nat.le_of_ble_eq_true rfl) ?_
              refine jr_ti (b := ((rd w 15 360) (k + 1))) (Lu (k + 1)) ?_
              refine jr_iload F dX5_meets_189 rfl ?_
              refine jr_sI F dX5_meets_191 cs_X5_49 (c_X5_numberOf (by omega) (by omega)) rfl (Nat.le_of_ble_eq_true rfl) (Nat.le_of_ble_eq_true rfl) rfl (Nat.le_of_ble_eq_true rfl) ?_
              refine jr_istore F dX5_meets_194 (Nat.le_of_ble_eq_true rfl) rfl ?_
              refine jr_aload_n F dX5_meets_196 rfl ?_
              refine jr_aload_n F dX5_meets_197 rfl ?_
              refine jr_aload_n F dX5_meets_198 rfl ?_
              refine jr_iload F dX5_meets_199 rfl ?_
              refine jr_iconst F dX5_meets_201 ?_
              refine jr_isub F dX5_meets_202 ?_
              refine jr_nI F dX5_meets_203 cn_X5_34 (c_X7_at (Nat.le_of_ble_eq_true rfl) rfl (by omega) (by omega)) rfl (Nat.le_of_ble_eq_true rfl) (Nat.le_of_ble_eq_true rfl) rfl (Nat.le_of_ble_eq_true rfl) ?_
              refine jr_ti (b := ((rd w 15 360) (k - 1))) (Lu (k - 1)) ?_
              refine jr_vI F dX5_meets_206 cv_X5_53 (c_X5_valueOf (by omega)) (Nat.le_of_ble_eq_true rfl) rfl rfl rfl rfl (Nat.le_of_ble_eq_true rfl) (Nat.le_of_ble_eq_true rfl) rfl (Nat.le_of_ble_eq_true rfl) ?_
              refine jr_ti (b := (valv w ((rd w 15 360) (k - 1)))) (Vu _) ?_
              refine jr_iload F dX5_meets_209 rfl ?_
              refine jr_iload F dX5_meets_211 rfl ?_
              refine jr_sL F dX5_meets_213 cs_X5_57 (c_X5_compared (by omega) (by omega) (by unfold numv; split <;> omega)) rfl (Nat.le_of_ble_eq_true rfl) (Nat.le_of_ble_eq_true rfl) rfl (Nat.le_of_ble_eq_true rfl) ?_
              refine jr_tl (b := ((evC (valv w) (rd w 15 360) e k : Nat) : Int)) (by have := cmpv_R (valv w ((rd w 15 360) (k - 1))) ((rd w 15 360) k) (numv ((rd w 15 360) (k + 1)) (if k + 2 < e then (rd w 15 360) (k + 2) else -1)); unfold evC; first | (rw [if_pos (by omega)] at this ⊢; omega) | (rw [if_neg (by omega)] at this ⊢; omega)) ?_
              refine jr_vU F dX5_meets_216 cv_X5_45 (c_X5_take (q := q) (n := evC (valv w) (rd w 15 360) e k) iq (qlt_up hb (by omega)) (by unfold evC; have := cmpv_R (valv w ((rd w 15 360) (k - 1))) ((rd w 15 360) k) (numv ((rd w 15 360) (k + 1)) (if k + 2 < e then (rd w 15 360) (k + 2) else -1)); omega)) (Nat.le_of_ble_eq_true rfl) rfl rfl rfl rfl (Nat.le_of_ble_eq_true rfl) (Nat.le_of_ble_eq_true rfl) rfl (Nat.le_of_ble_eq_true rfl) (fun w216 h216 => ?_)
              refine jr_goto (tgt := 222) F dX5_meets_219 (by decide) ?_
              refine jr_iinc F dX5_meets_222 rfl (Nat.le_of_ble_eq_true rfl) rfl ?_
              refine jr_goto (tgt := 18) F dX5_meets_225 (by decide) ?_
              exact jr_sub (ih18 _ (k + 1) (qT (evC (valv w) (rd w 15 360) e k) q) (by omega) (by omega) (by omega) (by have := evL_lt (o := valv w) (L := (rd w 15 360)) (e := e) (k := k) hb; rw [hev] at this; rw [show (k + 1 - s).toNat = (k - s).toNat + 1 by omega]; exact this) (by rw [h216]; subst hu; rw [s17_s]) (by rw [hv]; exact evS_s c21 hev)) ⟨rfl, rfl, rfl, rfl, rfl, trivial⟩
          · refine jr_look (tgt := 159) (off := 125) F dX5_meets_34 (by decide) (by rw [c34]; decide) (by decide) (by omega) ?_
            have hev : evL (valv w) (rd w 15 360) e k q = qT (evC (valv w) (rd w 15 360) e k) q := by unfold evL; rw [if_neg (by omega), if_neg (by omega), if_neg (by omega), if_neg (by omega), if_pos (by omega)]
            have L1 := hL (k + 1)
            have L2 := hL (k + 2)
            have L9 := hL (k - 1)
            have Vr := valv_R hO
            have V1 : inR (valv w ((rd w 15 360) (k - 1))) := by rw [← Vu]; exact Vr _
            refine jr_iload F dX5_meets_159 rfl ?_
            refine jr_iconst F dX5_meets_161 ?_
            refine jr_iadd F dX5_meets_162 ?_
            refine jr_iload_n F dX5_meets_163 rfl ?_
            refine jr_icmp_ge (tgt := 178) F dX5_meets_164 (by decide) (fun c164 => ?_) (fun c164 => ?_) (by omega) (by omega)
            · skip
              refine jr_iconst F dX5_meets_178 ?_
              refine jr_istore F dX5_meets_179 (Nat.le_of_ble_eq_true rfl) rfl ?_
              refine jr_aload_n F dX5_meets_181 rfl ?_
              refine jr_iload F dX5_meets_182 rfl ?_
              refine jr_iconst F dX5_meets_184 ?_
              refine jr_iadd F dX5_meets_185 ?_
              refine jr_nI F dX5_meets_186 cn_X5_34 (c_X7_at (Nat.le_of_ble_eq_true rfl) rfl (by omega) (by omega)) rfl (Nat.le_of_ble_eq_true rfl) (Nat.le_of_ble_eq_true rfl) rfl (Nat.le_of_ble_eq_true rfl) ?_
              refine jr_ti (b := ((rd w 15 360) (k + 1))) (Lu (k + 1)) ?_
              refine jr_iload F dX5_meets_189 rfl ?_
              refine jr_sI F dX5_meets_191 cs_X5_49 (c_X5_numberOf (by omega) (by omega)) rfl (Nat.le_of_ble_eq_true rfl) (Nat.le_of_ble_eq_true rfl) rfl (Nat.le_of_ble_eq_true rfl) ?_
              refine jr_istore F dX5_meets_194 (Nat.le_of_ble_eq_true rfl) rfl ?_
              refine jr_aload_n F dX5_meets_196 rfl ?_
              refine jr_aload_n F dX5_meets_197 rfl ?_
              refine jr_aload_n F dX5_meets_198 rfl ?_
              refine jr_iload F dX5_meets_199 rfl ?_
              refine jr_iconst F dX5_meets_201 ?_
              refine jr_isub F dX5_meets_202 ?_
              refine jr_nI F dX5_meets_203 cn_X5_34 (c_X7_at (Nat.le_of_ble_eq_true rfl) rfl (by omega) (by omega)) rfl (Nat.le_of_ble_eq_true rfl) (Nat.le_of_ble_eq_true rfl) rfl (Nat.le_of_ble_eq_true rfl) ?_
              refine jr_ti (b := ((rd w 15 360) (k - 1))) (Lu (k - 1)) ?_
              refine jr_vI F dX5_meets_206 cv_X5_53 (c_X5_valueOf (by omega)) (Nat.le_of_ble_eq_true rfl) rfl rfl rfl rfl (Nat.le_of_ble_eq_true rfl) (Nat.le_of_ble_eq_true rfl) rfl (Nat.le_of_ble_eq_true rfl) ?_
              refine jr_ti (b := (valv w ((rd w 15 360) (k - 1)))) (Vu _) ?_
              refine jr_iload F dX5_meets_209 rfl ?_
              refine jr_iload F dX5_meets_211 rfl ?_
              refine jr_sL F dX5_meets_213 cs_X5_57 (c_X5_compared (by omega) (by omega) (by unfold numv; split <;> omega)) rfl (Nat.le_of_ble_eq_true rfl) (Nat.le_of_ble_eq_true rfl) rfl (Nat.le_of_ble_eq_true rfl) ?_
              refine jr_tl (b := ((evC (valv w) (rd w 15 360) e k : Nat) : Int)) (by have := cmpv_R (valv w ((rd w 15 360) (k - 1))) ((rd w 15 360) k) (numv ((rd w 15 360) (k + 1)) (if k + 2 < e then (rd w 15 360) (k + 2) else -1)); unfold evC; first | (rw [if_pos (by omega)] at this ⊢; omega) | (rw [if_neg (by omega)] at this ⊢; omega)) ?_
              refine jr_vU F dX5_meets_216 cv_X5_45 (c_X5_take (q := q) (n := evC (valv w) (rd w 15 360) e k) iq (qlt_up hb (by omega)) (by unfold evC; have := cmpv_R (valv w ((rd w 15 360) (k - 1))) ((rd w 15 360) k) (numv ((rd w 15 360) (k + 1)) (if k + 2 < e then (rd w 15 360) (k + 2) else -1)); omega)) (Nat.le_of_ble_eq_true rfl) rfl rfl rfl rfl (Nat.le_of_ble_eq_true rfl) (Nat.le_of_ble_eq_true rfl) rfl (Nat.le_of_ble_eq_true rfl) (fun w216 h216 => ?_)
              refine jr_goto (tgt := 222) F dX5_meets_219 (by decide) ?_
              refine jr_iinc F dX5_meets_222 rfl (Nat.le_of_ble_eq_true rfl) rfl ?_
              refine jr_goto (tgt := 18) F dX5_meets_225 (by decide) ?_
              exact jr_sub (ih18 _ (k + 1) (qT (evC (valv w) (rd w 15 360) e k) q) (by omega) (by omega) (by omega) (by have := evL_lt (o := valv w) (L := (rd w 15 360)) (e := e) (k := k) hb; rw [hev] at this; rw [show (k + 1 - s).toNat = (k - s).toNat + 1 by omega]; exact this) (by rw [h216]; subst hu; rw [s17_s]) (by rw [hv]; exact evS_s c21 hev)) ⟨rfl, rfl, rfl, rfl, rfl, trivial⟩
            · skip
              refine jr_aload_n F dX5_meets_167 rfl ?_
              refine jr_iload F dX5_meets_168 rfl ?_
              refine jr_iconst F dX5_meets_170 ?_
              refine jr_iadd F dX5_meets_171 ?_
              refine jr_nI F dX5_meets_172 cn_X5_34 (c_X7_at (Nat.le_of_ble_eq_true rfl) rfl (by omega) (by omega)) rfl (Nat.le_of_ble_eq_true rfl) (Nat.le_of_ble_eq_true rfl) rfl (Nat.le_of_ble_eq_true rfl) ?_
              refine jr_ti (b := ((rd w 15 360) (k + 2))) (Lu (k + 2)) ?_
              refine jr_goto (tgt := 179) F dX5_meets_175 (by decide) ?_
              refine jr_istore F dX5_meets_179 (Nat.le_of_ble_eq_true rfl) rfl ?_
              refine jr_aload_n F dX5_meets_181 rfl ?_
              refine jr_iload F dX5_meets_182 rfl ?_
              refine jr_iconst F dX5_meets_184 ?_
              refine jr_iadd F dX5_meets_185 ?_
              refine jr_nI F dX5_meets_186 cn_X5_34 (c_X7_at (Nat.le_of_ble_eq_true rfl) rfl (by omega) (by omega)) rfl (Nat.le_of_ble_eq_true rfl) (Nat.le_of_ble_eq_true rfl) rfl (Nat.le_of_ble_eq_true rfl) ?_
              refine jr_ti (b := ((rd w 15 360) (k + 1))) (Lu (k + 1)) ?_
              refine jr_iload F dX5_meets_189 rfl ?_
              refine jr_sI F dX5_meets_191 cs_X5_49 (c_X5_numberOf (by omega) (by omega)) rfl (Nat.le_of_ble_eq_true rfl) (Nat.le_of_ble_eq_true rfl) rfl (Nat.le_of_ble_eq_true rfl) ?_
              refine jr_istore F dX5_meets_194 (Nat.le_of_ble_eq_true rfl) rfl ?_
              refine jr_aload_n F dX5_meets_196 rfl ?_
              refine jr_aload_n F dX5_meets_197 rfl ?_
              refine jr_aload_n F dX5_meets_198 rfl ?_
              refine jr_iload F dX5_meets_199 rfl ?_
              refine jr_iconst F dX5_meets_201 ?_
              refine jr_isub F dX5_meets_202 ?_
              refine jr_nI F dX5_meets_203 cn_X5_34 (c_X7_at (Nat.le_of_ble_eq_true rfl) rfl (by omega) (by omega)) rfl (Nat.le_of_ble_eq_true rfl) (Nat.le_of_ble_eq_true rfl) rfl (Nat.le_of_ble_eq_true rfl) ?_
              refine jr_ti (b := ((rd w 15 360) (k - 1))) (Lu (k - 1)) ?_
              refine jr_vI F dX5_meets_206 cv_X5_53 (c_X5_valueOf (by omega)) (Nat.le_of_ble_eq_true rfl) rfl rfl rfl rfl (Nat.le_of_ble_eq_true rfl) (Nat.le_of_ble_eq_true rfl) rfl (Nat.le_of_ble_eq_true rfl) ?_
              refine jr_ti (b := (valv w ((rd w 15 360) (k - 1)))) (Vu _) ?_
              refine jr_iload F dX5_meets_209 rfl ?_
              refine jr_iload F dX5_meets_211 rfl ?_
              refine jr_sL F dX5_meets_213 cs_X5_57 (c_X5_compared (by omega) (by omega) (by unfold numv; split <;> omega)) rfl (Nat.le_of_ble_eq_true rfl) (Nat.le_of_ble_eq_true rfl) rfl (Nat.le_of_ble_eq_true rfl) ?_
              refine jr_tl (b := ((evC (valv w) (rd w 15 360) e k : Nat) : Int)) (by have := cmpv_R (valv w ((rd w 15 360) (k - 1))) ((rd w 15 360) k) (numv ((rd w 15 360) (k + 1)) (if k + 2 < e then (rd w 15 360) (k + 2) else -1)); unfold evC; first | (rw [if_pos (by omega)] at this ⊢; omega) | (rw [if_neg (by omega)] at this ⊢; omega)) ?_
              refine jr_vU F dX5_meets_216 cv_X5_45 (c_X5_take (q := q) (n := evC (valv w) (rd w 15 360) e k) iq (qlt_up hb (by omega)) (by unfold evC; have := cmpv_R (valv w ((rd w 15 360) (k - 1))) ((rd w 15 360) k) (numv ((rd w 15 360) (k + 1)) (if k + 2 < e then (rd w 15 360) (k + 2) else -1)); omega)) (Nat.le_of_ble_eq_true rfl) rfl rfl rfl rfl (Nat.le_of_ble_eq_true rfl) (Nat.le_of_ble_eq_true rfl) rfl (Nat.le_of_ble_eq_true rfl) (fun w216 h216 => ?_)
              refine jr_goto (tgt := 222) F dX5_meets_219 (by decide) ?_
              refine jr_iinc F dX5_meets_222 rfl (Nat.le_of_ble_eq_true rfl) rfl ?_
              refine jr_goto (tgt := 18) F dX5_meets_225 (by decide) ?_
              exact jr_sub (ih18 _ (k + 1) (qT (evC (valv w) (rd w 15 360) e k) q) (by omega) (by omega) (by omega) (by have := evL_lt (o := valv w) (L := (rd w 15 360)) (e := e) (k := k) hb; rw [hev] at this; rw [show (k + 1 - s).toNat = (k - s).toNat + 1 by omega]; exact this) (by rw [h216]; subst hu; rw [s17_s]) (by rw [hv]; exact evS_s c21 hev)) ⟨rfl, rfl, rfl, rfl, rfl, trivial⟩
          · refine jr_look (tgt := 131) (off := 97) F dX5_meets_34 (by decide) (by rw [c34]; decide) (by decide) (by omega) ?_
            have hev : evL (valv w) (rd w 15 360) e k q = qB q := by unfold evL; rw [if_neg (by omega), if_neg (by omega), if_neg (by omega), if_pos (by omega)]
            have n1 : q.2.1 &&& 1 ≤ 1 := Nat.and_le_right
            have m4 : q.1 ||| (q.2.1 &&& 1) < 2 ^ 62 := Nat.or_lt_two_pow (by omega) (by omega)
            refine jr_aload_n F dX5_meets_131 rfl ?_
            refine jr_dup F dX5_meets_132 rfl ?_
            refine jr_getLx F (q.1 : Int) dX5_meets_133 fg_X5_24 (Nat.le_of_ble_eq_true rfl) rfl rfl a4 (fun q133 => ?_)
            refine jr_aload_n F dX5_meets_136 rfl ?_
            refine jr_getLx F (q.2.1 : Int) dX5_meets_137 fg_X5_28 (Nat.le_of_ble_eq_true rfl) rfl rfl a5 (fun q137 => ?_)
            refine jr_lconst (z := 1) F dX5_meets_140 (by decide) ?_
            refine jr_land F dX5_meets_141 ?_
            refine jr_topl (z := ((q.2.1 &&& 1 : Nat) : Int)) F (hl_and (b := 1) (by omega) (by omega)) ?_
            refine jr_lor F dX5_meets_142 ?_
            refine jr_topl (z := ((q.1 ||| (q.2.1 &&& 1) : Nat) : Int)) F (hl_or (by omega) (by omega)) ?_
            refine jr_putLx F dX5_meets_143 fp_X5_24 (Nat.le_of_ble_eq_true rfl) rfl rfl (by have := (q63 (qlt_B hb) (by omega)).1; simp only [qB] at this; omega) (fun w143 e143 => ?_)
            refine jr_aload_n F dX5_meets_146 rfl ?_
            refine jr_dup F dX5_meets_147 rfl ?_
            refine jr_getLx F (q.2.1 : Int) dX5_meets_148 fg_X5_28 (Nat.le_of_ble_eq_true rfl) rfl rfl (by subst e143; exact a5) (fun q148 => ?_)
            refine jr_lconst (z := 1) F dX5_meets_151 (by decide) ?_
            refine jr_lor F dX5_meets_152 ?_
            refine jr_topl (z := ((q.2.1 ||| 1 : Nat) : Int)) F (hl_or (b := 1) (by omega) (by omega)) ?_
            refine jr_putLx F dX5_meets_153 fp_X5_28 (Nat.le_of_ble_eq_true rfl) rfl rfl (by have := (q63 (qlt_B hb) (by omega)).2.1; simp only [qB] at this; omega) (fun w153 e153 => ?_)
            refine jr_goto (tgt := 222) F dX5_meets_156 (by decide) ?_
            refine jr_iinc F dX5_meets_222 rfl (Nat.le_of_ble_eq_true rfl) rfl ?_
            refine jr_goto (tgt := 18) F dX5_meets_225 (by decide) ?_
            exact jr_sub (ih18 _ (k + 1) (qB q) (by omega) (by omega) (by omega) (by have := evL_lt (o := valv w) (L := (rd w 15 360)) (e := e) (k := k) hb; rw [hev] at this; rw [show (k + 1 - s).toNat = (k - s).toNat + 1 by omega]; exact this) (by subst e153; subst e143; subst hu; exact s17_of rfl rfl rfl (fun k i h => by rw [up_ne (by omega), up_ne (by omega)]; unfold s17; rw [up_ne (by omega), up_ne (by omega), up_ne (by omega)])) (by rw [hv]; exact evS_s c21 hev)) ⟨rfl, rfl, rfl, rfl, rfl, trivial⟩
          · refine jr_look (tgt := 222) (off := 188) F dX5_meets_34 (by decide) (by simp only [Op.lookupswitch.offset]; (repeat' split) <;> first | rfl | omega) (by decide) (by omega) ?_
            have hev : evL (valv w) (rd w 15 360) e k q = q := by unfold evL; rw [if_neg (by omega), if_neg (by omega), if_neg (by omega), if_neg (by omega), if_neg (by omega)]
            refine jr_iinc F dX5_meets_222 rfl (Nat.le_of_ble_eq_true rfl) rfl ?_
            refine jr_goto (tgt := 18) F dX5_meets_225 (by decide) ?_
            exact jr_sub (ih18 _ (k + 1) (q) (by omega) (by omega) (by omega) (by have := evL_lt (o := valv w) (L := (rd w 15 360)) (e := e) (k := k) hb; rw [hev] at this; rw [show (k + 1 - s).toNat = (k - s).toNat + 1 by omega]; exact this) (by exact hu) (by rw [hv]; exact evS_s c21 hev)) ⟨rfl, rfl, rfl, rfl, rfl, trivial⟩
  exact jr_sub (L18 _ _ s (0, 1, 0) (Nat.lt_succ_self _) (by omega) (by omega) ⟨by simp, by simp, by simp⟩ (by subst e12; subst e7; subst e2; rfl) rfl) ⟨rfl, rfl, rfl, rfl, rfl, trivial⟩

