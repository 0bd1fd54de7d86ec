/-! the page; the letters that a text may have -/
noncomputable def pgl (w : Wd) (i : Int) : Int := rd w 19 60 i
theorem pgl_R {B : Bs} {w : Wd} (hO : okW (GX B) w) (i : Int) : inR (pgl w i) := rd_R (k := 19) (n := 60) hO rfl _
theorem pgl_in {w : Wd} {i : Int} (h0 : 0 ≤ i) (h1 : i < 60) : pgl w i = w 19 i := rd_in h0 h1
def tnf (c d : Int) : Int := if c = 41 then (if 0 < d then 8 else 9) else if c = 124 ∨ c = 38 then 4 else 9
def tnx (s c d : Int) : Int :=
  if s = 0 then (if c = 67 ∨ c = 66 then 1 else 9)
  else if s = 1 then (if c = 58 then 2 else 9)
  else if s = 2 then (if c = 48 ∨ c = 49 then 3 else 9)
  else if s = 3 then (if c = 63 then 4 else 9)
  else if s = 4 then (if c = 33 ∨ c = 40 then 4 else if c = 108 ∨ c = 107 ∨ c = 110 ∨ c = 114 then 5 else 9)
  else if s = 5 then (if 60 ≤ c ∧ c ≤ 62 then 6 else 9)
  else if s = 6 then (if 48 ≤ c ∧ c ≤ 57 then 7 else 9)
  else if s = 7 ∧ 48 ≤ c ∧ c ≤ 57 then 8
  else tnf c d
def dep (c : Int) : Int := if c = 40 then 1 else if c = 41 then -1 else 0
theorem dep_1 {c : Int} (h : c = 40) : dep c = 1 := by unfold dep; rw [if_pos h]
theorem dep_2 {c : Int} (h : c = 41) : dep c = -1 := by unfold dep; rw [if_neg (by omega), if_pos h]
theorem dep_0 {c : Int} (h : ¬ c = 40) (h2 : ¬ c = 41) : dep c = 0 := by unfold dep; rw [if_neg h, if_neg h2]
/-- place, state and depth at which the letters end, or at the first fault (state 9) -/
def scan (L : Int → Int) : Nat → Int → Int → Int → Int × Int × Int
  | 0, k, s, d => (k, s, d)
  | f + 1, k, s, d => if tnx s (L k) d = 9 then (k, 9, d) else scan L f (k + 1) (tnx s (L k) d) (d + dep (L k))
theorem scan_f {L : Int → Int} {f : Nat} {k s d : Int} (h : tnx s (L k) d = 9) : scan L (f + 1) k s d = (k, 9, d) := by rw [scan, if_pos h]
theorem scan_s {L : Int → Int} {f : Nat} {k s d : Int} (h : ¬ tnx s (L k) d = 9) : scan L (f + 1) k s d = scan L f (k + 1) (tnx s (L k) d) (d + dep (L k)) := by rw [scan, if_neg h]
theorem tnx_par {s c d : Int} (h : c = 41) (h2 : ¬ tnx s c d = 9) : 0 < d := by
  subst h
  unfold tnx tnf at h2
  by_cases q : 0 < d
  · exact q
  · exact absurd (by (repeat' split) <;> omega) h2
theorem dep_R {s c d k : Int} (h : 0 ≤ d ∧ d ≤ k) (h2 : ¬ tnx s c d = 9) : 0 ≤ d + dep c ∧ d + dep c ≤ k + 1 := by
  unfold dep
  split
  · omega
  · split
    · have := tnx_par (by assumption) h2; omega
    · omega
theorem tnx_R (s c d : Int) : 0 ≤ tnx s c d ∧ tnx s c d ≤ 9 := by unfold tnx tnf; (repeat' split) <;> omega
noncomputable def scw (w : Wd) : Int × Int × Int := scan (pgl w) (w 18 1).toNat 0 0 0

set_option maxRecDepth 100000 in
set_option maxHeartbeats 4000000 in
theorem c_X2_size {B : Bs} {w : Wd}   : Sp (GX B) 0 yX2_size cX2_size 1 (Option.some FieldType.int) [.ref (ga (GX B) (18))] w (pI w (w 18 1)) := by
  refine Sp.of (by decide) (Nat.le_of_ble_eq_true rfl) (fun X F => ?_)
  show Jw (GX B) X _ 0 [some (.ref (ga (GX B) (18)))] [] w
  refine jr_aload_n F dX2_size_0 rfl ?_
  refine jr_getIx F (w 18 1) dX2_size_1 fg_X2_15 (Nat.le_of_ble_eq_true rfl) rfl rfl rfl (fun q1 => ?_)
  exact jr_iret F dX2_size_4 (pI_of (by first | rfl | omega) rfl)

set_option maxRecDepth 100000 in
set_option maxHeartbeats 4000000 in
theorem c_X2_letterAt {B : Bs} {w : Wd} {i : Int} (h : inR i) : Sp (GX B) 1 yX2_letterAt cX2_letterAt 2 (Option.some FieldType.int) [.ref (ga (GX B) (18)), iv (i)] w (pI w (pgl w i)) := by
  refine Sp.of (by decide) (Nat.le_of_ble_eq_true rfl) (fun X F => ?_)
  show Jw (GX B) X _ 0 [some (.ref (ga (GX B) (18))), some (iv (i))] [] w
  refine jr_aload_n F dX2_letterAt_0 rfl ?_
  refine jr_getR (t := 19) F dX2_letterAt_1 fg_X2_9 (Nat.le_of_ble_eq_true rfl) rfl rfl ?_
  refine jr_iload_n F dX2_letterAt_4 rfl ?_
  refine jr_nI F dX2_letterAt_5 cn_X2_25 (c_X7_at (Nat.le_of_ble_eq_true rfl) rfl (by omega) (by omega)) rfl (Nat.le_of_ble_eq_true rfl) (Nat.le_of_ble_eq_true rfl) rfl (Nat.le_of_ble_eq_true rfl) ?_
  exact jr_iret F dX2_letterAt_8 (pI_of (by first | rfl | omega) rfl)

set_option maxRecDepth 100000 in
set_option maxHeartbeats 4000000 in
theorem c_X2_wipe {B : Bs} {w : Wd}   : Sp (GX B) 0 yX2_wipe cX2_wipe 2 (Option.some FieldType.int) [.ref (ga (GX B) (18))] w (pI (up w 18 1 0) (w 18 1)) := by
  refine Sp.of (by decide) (Nat.le_of_ble_eq_true rfl) (fun X F => ?_)
  show Jw (GX B) X _ 0 [some (.ref (ga (GX B) (18)))] [] w
  refine jr_aload_n F dX2_wipe_0 rfl ?_
  refine jr_getIx F (w 18 1) dX2_wipe_1 fg_X2_15 (Nat.le_of_ble_eq_true rfl) rfl rfl rfl (fun q1 => ?_)
  refine jr_istore_n F dX2_wipe_4 (Nat.le_of_ble_eq_true rfl) rfl ?_
  refine jr_aload_n F dX2_wipe_5 rfl ?_
  refine jr_iconst F dX2_wipe_6 ?_
  refine jr_putIx F dX2_wipe_7 fp_X2_15 (Nat.le_of_ble_eq_true rfl) rfl rfl (by omega) (fun w7 e7 => ?_)
  refine jr_iload_n F dX2_wipe_10 rfl ?_
  exact jr_iret F dX2_wipe_11 (pI_of (by first | rfl | omega) (by subst e7; first | rfl | omega))

set_option maxRecDepth 100000 in
set_option maxHeartbeats 4000000 in
theorem c_X2_isDigit {B : Bs} {w : Wd} {c : Int} (h : inR c) : Sp (GX B) 0 yX2_isDigit cX2_isDigit 1 (Option.some FieldType.boolean) [iv (c)] w (pI w (bi (48 ≤ c ∧ c ≤ 57))) := by
  refine Sp.of (by decide) (Nat.le_of_ble_eq_true rfl) (fun X F => ?_)
  show Jw (GX B) X _ 0 [some (iv (c))] [] w
  refine jr_iload_n F dX2_isDigit_0 rfl ?_
  refine jr_bipush F dX2_isDigit_1 (by decide) ?_
  refine jr_icmp_lt (tgt := 16) F dX2_isDigit_3 (by decide) (fun c3 => ?_) (fun c3 => ?_) (by omega) (by omega)
  · skip
    refine jr_iconst F dX2_isDigit_16 ?_
    exact jr_zret F dX2_isDigit_17 (pI_of (bi_f (by omega)).symm rfl) (by omega)
  · skip
    refine jr_iload_n F dX2_isDigit_6 rfl ?_
    refine jr_bipush F dX2_isDigit_7 (by decide) ?_
    refine jr_icmp_gt (tgt := 16) F dX2_isDigit_9 (by decide) (fun c9 => ?_) (fun c9 => ?_) (by omega) (by omega)
    · skip
      refine jr_iconst F dX2_isDigit_16 ?_
      exact jr_zret F dX2_isDigit_17 (pI_of (bi_f (by omega)).symm rfl) (by omega)
    · skip
      refine jr_iconst F dX2_isDigit_12 ?_
      refine jr_goto (tgt := 17) F dX2_isDigit_13 (by decide) ?_
      exact jr_zret F dX2_isDigit_17 (pI_of (bi_t (by omega)).symm rfl) (by omega)

set_option maxRecDepth 100000 in
set_option maxHeartbeats 4000000 in
theorem c_X2_afterFactorBegins {B : Bs} {w : Wd} {c : Int} (h : inR c) : Sp (GX B) 0 yX2_afterFactorBegins cX2_afterFactorBegins 1 (Option.some FieldType.int) [iv (c)] w (pI w (if c = 33 ∨ c = 40 then 4 else if c = 108 ∨ c = 107 ∨ c = 110 ∨ c = 114 then 5 else 9)) := by
  refine Sp.of (by decide) (Nat.le_of_ble_eq_true rfl) (fun X F => ?_)
  show Jw (GX B) X _ 0 [some (iv (c))] [] w
  refine jr_iload_n F dX2_afterFactorBegins_0 rfl ?_
  rcases (show c = 33 ∨ c = 40 ∨ c = 107 ∨ c = 108 ∨ c = 110 ∨ c = 114 ∨ (¬ c = 33 ∧ ¬ c = 40 ∧ ¬ c = 107 ∧ ¬ c = 108 ∧ ¬ c = 110 ∧ ¬ c = 114) by omega) with c1 | c1 | c1 | c1 | c1 | c1 | c1
  · refine jr_look (tgt := 60) (off := 59) F dX2_afterFactorBegins_1 (by decide) (by rw [c1]; decide) (by decide) (by omega) ?_
    refine jr_iconst F dX2_afterFactorBegins_60 ?_
    exact jr_iret F dX2_afterFactorBegins_61 (pI_of (by first | rfl | (repeat' split) <;> omega) rfl)
  · refine jr_look (tgt := 60) (off := 59) F dX2_afterFactorBegins_1 (by decide) (by rw [c1]; decide) (by decide) (by omega) ?_
    refine jr_iconst F dX2_afterFactorBegins_60 ?_
    exact jr_iret F dX2_afterFactorBegins_61 (pI_of (by first | rfl | (repeat' split) <;> omega) rfl)
  · refine jr_look (tgt := 62) (off := 61) F dX2_afterFactorBegins_1 (by decide) (by rw [c1]; decide) (by decide) (by omega) ?_
    refine jr_iconst F dX2_afterFactorBegins_62 ?_
    exact jr_iret F dX2_afterFactorBegins_63 (pI_of (by first | rfl | (repeat' split) <;> omega) rfl)
  · refine jr_look (tgt := 62) (off := 61) F dX2_afterFactorBegins_1 (by decide) (by rw [c1]; decide) (by decide) (by omega) ?_
    refine jr_iconst F dX2_afterFactorBegins_62 ?_
    exact jr_iret F dX2_afterFactorBegins_63 (pI_of (by first | rfl | (repeat' split) <;> omega) rfl)
  · refine jr_look (tgt := 62) (off := 61) F dX2_afterFactorBegins_1 (by decide) (by rw [c1]; decide) (by decide) (by omega) ?_
    refine jr_iconst F dX2_afterFactorBegins_62 ?_
    exact jr_iret F dX2_afterFactorBegins_63 (pI_of (by first | rfl | (repeat' split) <;> omega) rfl)
  · refine jr_look (tgt := 62) (off := 61) F dX2_afterFactorBegins_1 (by decide) (by rw [c1]; decide) (by decide) (by omega) ?_
    refine jr_iconst F dX2_afterFactorBegins_62 ?_
    exact jr_iret F dX2_afterFactorBegins_63 (pI_of (by first | rfl | (repeat' split) <;> omega) rfl)
  · refine jr_look (tgt := 64) (off := 63) F dX2_afterFactorBegins_1 (by decide) (by simp only [Op.lookupswitch.offset]; (repeat' split) <;> first | rfl | omega) (by decide) (by omega) ?_
    refine jr_bipush F dX2_afterFactorBegins_64 (by decide) ?_
    exact jr_iret F dX2_afterFactorBegins_66 (pI_of (by first | rfl | (repeat' split) <;> omega) rfl)

set_option maxRecDepth 100000 in
set_option maxHeartbeats 4000000 in
theorem c_X2_afterFactorEnds {B : Bs} {w : Wd} {c : Int} (h : inR c) : Sp (GX B) 0 yX2_afterFactorEnds cX2_afterFactorEnds 2 (Option.some FieldType.int) [.ref (ga (GX B) (18)), iv (c)] w (pI w (tnf c (w 18 3))) := by
  refine Sp.of (by decide) (Nat.le_of_ble_eq_true rfl) (fun X F => ?_)
  show Jw (GX B) X _ 0 [some (.ref (ga (GX B) (18))), some (iv (c))] [] w
  refine jr_iload_n F dX2_afterFactorEnds_0 rfl ?_
  refine jr_bipush F dX2_afterFactorEnds_1 (by decide) ?_
  refine jr_icmp_ne (tgt := 21) F dX2_afterFactorEnds_3 (by decide) (fun c3 => ?_) (fun c3 => ?_) (by omega) (by omega)
  · skip
    refine jr_iload_n F dX2_afterFactorEnds_21 rfl ?_
    refine jr_bipush F dX2_afterFactorEnds_22 (by decide) ?_
    refine jr_icmp_eq (tgt := 33) F dX2_afterFactorEnds_24 (by decide) (fun c24 => ?_) (fun c24 => ?_) (by omega) (by omega)
    · skip
      refine jr_iconst F dX2_afterFactorEnds_33 ?_
      refine jr_goto (tgt := 39) F dX2_afterFactorEnds_34 (by decide) ?_
      exact jr_iret F dX2_afterFactorEnds_39 (pI_of (by first | rfl | unfold tnf; (repeat' split) <;> omega) rfl)
    · skip
      refine jr_iload_n F dX2_afterFactorEnds_27 rfl ?_
      refine jr_bipush F dX2_afterFactorEnds_28 (by decide) ?_
      refine jr_icmp_ne (tgt := 37) F dX2_afterFactorEnds_30 (by decide) (fun c30 => ?_) (fun c30 => ?_) (by omega) (by omega)
      · skip
        refine jr_bipush F dX2_afterFactorEnds_37 (by decide) ?_
        exact jr_iret F dX2_afterFactorEnds_39 (pI_of (by first | rfl | unfold tnf; (repeat' split) <;> omega) rfl)
      · skip
        refine jr_iconst F dX2_afterFactorEnds_33 ?_
        refine jr_goto (tgt := 39) F dX2_afterFactorEnds_34 (by decide) ?_
        exact jr_iret F dX2_afterFactorEnds_39 (pI_of (by first | rfl | unfold tnf; (repeat' split) <;> omega) rfl)
  · skip
    refine jr_aload_n F dX2_afterFactorEnds_6 rfl ?_
    refine jr_getIx F (w 18 3) dX2_afterFactorEnds_7 fg_X2_22 (Nat.le_of_ble_eq_true rfl) rfl rfl rfl (fun q7 => ?_)
    refine jr_if_le (tgt := 18) F dX2_afterFactorEnds_10 (by decide) (fun c10 => ?_) (fun c10 => ?_) (by omega)
    · skip
      refine jr_bipush F dX2_afterFactorEnds_18 (by decide) ?_
      exact jr_iret F dX2_afterFactorEnds_20 (pI_of (by first | rfl | unfold tnf; (repeat' split) <;> omega) rfl)
    · skip
      refine jr_bipush F dX2_afterFactorEnds_13 (by decide) ?_
      refine jr_goto (tgt := 20) F dX2_afterFactorEnds_15 (by decide) ?_
      exact jr_iret F dX2_afterFactorEnds_20 (pI_of (by first | rfl | unfold tnf; (repeat' split) <;> omega) rfl)

set_option maxRecDepth 100000 in
set_option maxHeartbeats 4000000 in
theorem c_X2_after {B : Bs} {w : Wd} {c : Int} (h : inR c) : Sp (GX B) 1 yX2_after cX2_after 2 (Option.some FieldType.int) [.ref (ga (GX B) (18)), iv (c)] w (pI w (tnx (w 18 2) c (w 18 3))) := by
  refine Sp.of (by decide) (Nat.le_of_ble_eq_true rfl) (fun X F => ?_)
  show Jw (GX B) X _ 0 [some (.ref (ga (GX B) (18))), some (iv (c))] [] w
  refine jr_aload_n F dX2_after_0 rfl ?_
  refine jr_getIx F (w 18 2) dX2_after_1 fg_X2_19 (Nat.le_of_ble_eq_true rfl) rfl rfl rfl (fun q1 => ?_)
  rcases (show (w 18 2) = 0 ∨ (w 18 2) = 1 ∨ (w 18 2) = 2 ∨ (w 18 2) = 3 ∨ (w 18 2) = 4 ∨ (w 18 2) = 5 ∨ (w 18 2) = 6 ∨ (w 18 2) = 7 ∨ ((w 18 2) < 0 ∨ 7 < (w 18 2)) by omega) with c4 | c4 | c4 | c4 | c4 | c4 | c4 | c4 | c4
  · refine jr_tsIn (tgt := 52) F (0) dX2_after_4 c4 (by omega) (by omega) rfl (by decide) (by omega) ?_
    refine jr_iload_n F dX2_after_52 rfl ?_
    refine jr_bipush F dX2_after_53 (by decide) ?_
    refine jr_icmp_eq (tgt := 64) F dX2_after_55 (by decide) (fun c55 => ?_) (fun c55 => ?_) (by omega) (by omega)
    · skip
      refine jr_iconst F dX2_after_64 ?_
      refine jr_goto (tgt := 70) F dX2_after_65 (by decide) ?_
      exact jr_iret F dX2_after_70 (pI_of (by first | rfl | unfold tnx; (repeat' split) <;> first | rfl | omega) rfl)
    · skip
      refine jr_iload_n F dX2_after_58 rfl ?_
      refine jr_bipush F dX2_after_59 (by decide) ?_
      refine jr_icmp_ne (tgt := 68) F dX2_after_61 (by decide) (fun c61 => ?_) (fun c61 => ?_) (by omega) (by omega)
      · skip
        refine jr_bipush F dX2_after_68 (by decide) ?_
        exact jr_iret F dX2_after_70 (pI_of (by first | rfl | unfold tnx; (repeat' split) <;> first | rfl | omega) rfl)
      · skip
        refine jr_iconst F dX2_after_64 ?_
        refine jr_goto (tgt := 70) F dX2_after_65 (by decide) ?_
        exact jr_iret F dX2_after_70 (pI_of (by first | rfl | unfold tnx; (repeat' split) <;> first | rfl | omega) rfl)
  · refine jr_tsIn (tgt := 71) F (1) dX2_after_4 c4 (by omega) (by omega) rfl (by decide) (by omega) ?_
    refine jr_iload_n F dX2_after_71 rfl ?_
    refine jr_bipush F dX2_after_72 (by decide) ?_
    refine jr_icmp_ne (tgt := 81) F dX2_after_74 (by decide) (fun c74 => ?_) (fun c74 => ?_) (by omega) (by omega)
    · skip
      refine jr_bipush F dX2_after_81 (by decide) ?_
      exact jr_iret F dX2_after_83 (pI_of (by first | rfl | unfold tnx; (repeat' split) <;> first | rfl | omega) rfl)
    · skip
      refine jr_iconst F dX2_after_77 ?_
      refine jr_goto (tgt := 83) F dX2_after_78 (by decide) ?_
      exact jr_iret F dX2_after_83 (pI_of (by first | rfl | unfold tnx; (repeat' split) <;> first | rfl | omega) rfl)
  · refine jr_tsIn (tgt := 84) F (2) dX2_after_4 c4 (by omega) (by omega) rfl (by decide) (by omega) ?_
    refine jr_iload_n F dX2_after_84 rfl ?_
    refine jr_bipush F dX2_after_85 (by decide) ?_
    refine jr_icmp_eq (tgt := 96) F dX2_after_87 (by decide) (fun c87 => ?_) (fun c87 => ?_) (by omega) (by omega)
    · skip
      refine jr_iconst F dX2_after_96 ?_
      refine jr_goto (tgt := 102) F dX2_after_97 (by decide) ?_
      exact jr_iret F dX2_after_102 (pI_of (by first | rfl | unfold tnx; (repeat' split) <;> first | rfl | omega) rfl)
    · skip
      refine jr_iload_n F dX2_after_90 rfl ?_
      refine jr_bipush F dX2_after_91 (by decide) ?_
      refine jr_icmp_ne (tgt := 100) F dX2_after_93 (by decide) (fun c93 => ?_) (fun c93 => ?_) (by omega) (by omega)
      · skip
        refine jr_bipush F dX2_after_100 (by decide) ?_
        exact jr_iret F dX2_after_102 (pI_of (by first | rfl | unfold tnx; (repeat' split) <;> first | rfl | omega) rfl)
      · skip
        refine jr_iconst F dX2_after_96 ?_
        refine jr_goto (tgt := 102) F dX2_after_97 (by decide) ?_
        exact jr_iret F dX2_after_102 (pI_of (by first | rfl | unfold tnx; (repeat' split) <;> first | rfl | omega) rfl)
  · refine jr_tsIn (tgt := 103) F (3) dX2_after_4 c4 (by omega) (by omega) rfl (by decide) (by omega) ?_
    refine jr_iload_n F dX2_after_103 rfl ?_
    refine jr_bipush F dX2_after_104 (by decide) ?_
    refine jr_icmp_ne (tgt := 113) F dX2_after_106 (by decide) (fun c106 => ?_) (fun c106 => ?_) (by omega) (by omega)
    · skip
      refine jr_bipush F dX2_after_113 (by decide) ?_
      exact jr_iret F dX2_after_115 (pI_of (by first | rfl | unfold tnx; (repeat' split) <;> first | rfl | omega) rfl)
    · skip
      refine jr_iconst F dX2_after_109 ?_
      refine jr_goto (tgt := 115) F dX2_after_110 (by decide) ?_
      exact jr_iret F dX2_after_115 (pI_of (by first | rfl | unfold tnx; (repeat' split) <;> first | rfl | omega) rfl)
  · refine jr_tsIn (tgt := 116) F (4) dX2_after_4 c4 (by omega) (by omega) rfl (by decide) (by omega) ?_
    refine jr_iload_n F dX2_after_116 rfl ?_
    refine jr_sI F dX2_after_117 cs_X2_50 (c_X2_afterFactorBegins (by omega)) rfl (Nat.le_of_ble_eq_true rfl) (Nat.le_of_ble_eq_true rfl) rfl (Nat.le_of_ble_eq_true rfl) ?_
    exact jr_iret F dX2_after_120 (pI_of (by first | rfl | unfold tnx; (repeat' split) <;> first | rfl | omega) rfl)
  · refine jr_tsIn (tgt := 121) F (5) dX2_after_4 c4 (by omega) (by omega) rfl (by decide) (by omega) ?_
    refine jr_iload_n F dX2_after_121 rfl ?_
    refine jr_bipush F dX2_after_122 (by decide) ?_
    refine jr_icmp_eq (tgt := 139) F dX2_after_124 (by decide) (fun c124 => ?_) (fun c124 => ?_) (by omega) (by omega)
    · skip
      refine jr_bipush F dX2_after_139 (by decide) ?_
      refine jr_goto (tgt := 146) F dX2_after_141 (by decide) ?_
      exact jr_iret F dX2_after_146 (pI_of (by first | rfl | unfold tnx; (repeat' split) <;> first | rfl | omega) rfl)
    · skip
      refine jr_iload_n F dX2_after_127 rfl ?_
      refine jr_bipush F dX2_after_128 (by decide) ?_
      refine jr_icmp_eq (tgt := 139) F dX2_after_130 (by decide) (fun c130 => ?_) (fun c130 => ?_) (by omega) (by omega)
      · skip
        refine jr_bipush F dX2_after_139 (by decide) ?_
        refine jr_goto (tgt := 146) F dX2_after_141 (by decide) ?_
        exact jr_iret F dX2_after_146 (pI_of (by first | rfl | unfold tnx; (repeat' split) <;> first | rfl | omega) rfl)
      · skip
        refine jr_iload_n F dX2_after_133 rfl ?_
        refine jr_bipush F dX2_after_134 (by decide) ?_
        refine jr_icmp_ne (tgt := 144) F dX2_after_136 (by decide) (fun c136 => ?_) (fun c136 => ?_) (by omega) (by omega)
        · skip
          refine jr_bipush F dX2_after_144 (by decide) ?_
          exact jr_iret F dX2_after_146 (pI_of (by first | rfl | unfold tnx; (repeat' split) <;> first | rfl | omega) rfl)
        · skip
          refine jr_bipush F dX2_after_139 (by decide) ?_
          refine jr_goto (tgt := 146) F dX2_after_141 (by decide) ?_
          exact jr_iret F dX2_after_146 (pI_of (by first | rfl | unfold tnx; (repeat' split) <;> first | rfl | omega) rfl)
  · refine jr_tsIn (tgt := 147) F (6) dX2_after_4 c4 (by omega) (by omega) rfl (by decide) (by omega) ?_
    refine jr_iload_n F dX2_after_147 rfl ?_
    refine jr_sI F dX2_after_148 cs_X2_53 (c_X2_isDigit (by omega)) rfl (Nat.le_of_ble_eq_true rfl) (Nat.le_of_ble_eq_true rfl) rfl (Nat.le_of_ble_eq_true rfl) ?_
    refine jr_ifeq_b (tgt := 159) F dX2_after_151 (by decide) (fun c151 => ?_) (fun c151 => ?_)
    · skip
      refine jr_bipush F dX2_after_159 (by decide) ?_
      exact jr_iret F dX2_after_161 (pI_of (by first | rfl | unfold tnx; (repeat' split) <;> first | rfl | omega) rfl)
    · skip
      refine jr_bipush F dX2_after_154 (by decide) ?_
      refine jr_goto (tgt := 161) F dX2_after_156 (by decide) ?_
      exact jr_iret F dX2_after_161 (pI_of (by first | rfl | unfold tnx; (repeat' split) <;> first | rfl | omega) rfl)
  · refine jr_tsIn (tgt := 162) F (7) dX2_after_4 c4 (by omega) (by omega) rfl (by decide) (by omega) ?_
    refine jr_iload_n F dX2_after_162 rfl ?_
    refine jr_sI F dX2_after_163 cs_X2_53 (c_X2_isDigit (by omega)) rfl (Nat.le_of_ble_eq_true rfl) (Nat.le_of_ble_eq_true rfl) rfl (Nat.le_of_ble_eq_true rfl) ?_
    refine jr_ifeq_b (tgt := 174) F dX2_after_166 (by decide) (fun c166 => ?_) (fun c166 => ?_)
    · skip
      refine jr_aload_n F dX2_after_174 rfl ?_
      refine jr_iload_n F dX2_after_175 rfl ?_
      refine jr_vI F dX2_after_176 cv_X2_57 (c_X2_afterFactorEnds (by omega)) (Nat.le_of_ble_eq_true rfl) rfl rfl rfl rfl (Nat.le_of_ble_eq_true rfl) (Nat.le_of_ble_eq_true rfl) rfl (Nat.le_of_ble_eq_true rfl) ?_
      exact jr_iret F dX2_after_179 (pI_of (by first | rfl | unfold tnx; (repeat' split) <;> first | rfl | omega) rfl)
    · skip
      refine jr_bipush F dX2_after_169 (by decide) ?_
      refine jr_goto (tgt := 179) F dX2_after_171 (by decide) ?_
      exact jr_iret F dX2_after_179 (pI_of (by first | rfl | unfold tnx; (repeat' split) <;> first | rfl | omega) rfl)
  · refine jr_tsOut (tgt := 180) F dX2_after_4 c4 (by decide) (by omega) ?_
    refine jr_aload_n F dX2_after_180 rfl ?_
    refine jr_iload_n F dX2_after_181 rfl ?_
    refine jr_vI F dX2_after_182 cv_X2_57 (c_X2_afterFactorEnds (by omega)) (Nat.le_of_ble_eq_true rfl) rfl rfl rfl rfl (Nat.le_of_ble_eq_true rfl) (Nat.le_of_ble_eq_true rfl) rfl (Nat.le_of_ble_eq_true rfl) ?_
    exact jr_iret F dX2_after_185 (pI_of (by first | rfl | unfold tnx; (repeat' split) <;> first | rfl | omega) rfl)

