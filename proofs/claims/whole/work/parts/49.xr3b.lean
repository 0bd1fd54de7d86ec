/-! what stands open, as arrays and as bits -/
theorem tbN (x k : Nat) : (x ^^^ 1).testBit k = (x.testBit k ^^ decide (0 = k)) := by rw [Nat.testBit_xor, show (1 : Nat) = 2 ^ 0 from rfl, Nat.testBit_two_pow]
theorem tbO (x k : Nat) : (x ||| 1).testBit k = (x.testBit k || decide (0 = k)) := by rw [Nat.testBit_or, show (1 : Nat) = 2 ^ 0 from rfl, Nat.testBit_two_pow]
theorem tbA (x k : Nat) : (x &&& 1).testBit k = (x.testBit k && decide (0 = k)) := by rw [Nat.testBit_and, show (1 : Nat) = 2 ^ 0 from rfl, Nat.testBit_two_pow]
theorem M2b : ∀ k : Nat, k < 64 → M2.testBit k = !decide (0 = k) := by decide
theorem tbM {k : Nat} (x : Nat) (h : k < 64) : (x &&& M2).testBit k = (x.testBit k && !decide (0 = k)) := by rw [Nat.testBit_and, M2b k h]
theorem qV_1 (q : Q3) : qV q = 1 ↔ (q.1.testBit 0 = true ∨ q.2.1.testBit 0 = true) := by
  have h := Nat.testBit_or q.1 q.2.1 0
  rw [Nat.testBit_zero] at h
  unfold qV
  rw [Nat.and_one_is_mod]
  cases p : q.1.testBit 0 <;> cases r : q.2.1.testBit 0 <;> rw [p, r] at h <;> simp at h ⊢ <;> omega
theorem xv0 {v f : Nat} (hv : v ≤ 1) : (v ^^^ (f &&& 1)) = 0 ↔ (v = 1 ↔ f.testBit 0 = true) := by
  rw [Nat.testBit_zero, Nat.and_one_is_mod]
  have h2 : f % 2 = 0 ∨ f % 2 = 1 := by omega
  rcases h2 with h | h <;> rw [h] <;> rcases (show v = 0 ∨ v = 1 by omega) with rfl | rfl <;> simp
def AR (u : Wd) (q : Q3) (d : Int) : Prop := ∀ j : Int, 0 ≤ j → j ≤ d → u 16 j = bi (q.1.testBit (d - j).toNat = true) ∧ u 17 j = bi (q.2.1.testBit (d - j).toNat = true) ∧ u 18 j = bi (q.2.2.testBit (d - j).toNat = true)
theorem AR_0 (u : Wd) : AR (up (up (up u 16 0 0) 17 0 1) 18 0 0) (0, 1, 0) 0 := by
  intro j j0 j1
  obtain rfl : j = 0 := by omega
  exact ⟨(bi_f (by decide)).symm, (bi_t (by decide)).symm, (bi_f (by decide)).symm⟩
theorem bi_e {P Q : Prop} (h : P ↔ Q) : bi P = bi Q := by rw [show P = Q from propext h]
theorem AR_N {u : Wd} {q : Q3} {d v : Int} (h : AR u q d) (hv : v = if u 18 d = 0 then 1 else 0) : AR (up u 18 d v) (qN q) d := by
  intro j j0 j1
  have a := h j j0 j1
  refine ⟨by rw [up_cell (by decide)]; exact a.1, by rw [up_cell (by decide)]; exact a.2.1, ?_⟩
  show up u 18 d v 18 j = bi ((q.2.2 ^^^ 1).testBit (d - j).toNat = true)
  rw [tbN]
  by_cases e : j = d
  · subst e
    rw [up_self, hv, a.2.2, show (j - j).toNat = 0 by omega]
    cases q.2.2.testBit 0 <;> simp [bi]
  · rw [up_ne (by omega), a.2.2, decide_eq_false (show ¬ 0 = (d - j).toNat by omega), Bool.xor_false]
theorem AR_P {u : Wd} {q : Q3} {d : Int} (h : AR u q d) (hd : 0 ≤ d) : AR (up (up (up u 16 (d + 1) 0) 17 (d + 1) 1) 18 (d + 1) 0) (qP q) (d + 1) := by
  intro j j0 j1
  by_cases e : j = d + 1
  · subst e
    rw [show (d + 1 - (d + 1)).toNat = 0 by omega]
    refine ⟨?_, ?_, ?_⟩
    · rw [up_cell (by decide), up_cell (by decide), up_self]
      exact (bi_f (by show ¬ (q.1 <<< 1).testBit 0 = true; rw [Nat.testBit_shiftLeft]; simp)).symm
    · rw [up_cell (by decide), up_self]
      exact (bi_t (by show ((q.2.1 <<< 1) ||| 1).testBit 0 = true; rw [tbO]; simp)).symm
    · rw [up_self]
      exact (bi_f (by show ¬ (q.2.2 <<< 1).testBit 0 = true; rw [Nat.testBit_shiftLeft]; simp)).symm
  · have a := h j j0 (by omega)
    have k1 : (d + 1 - j).toNat = (d - j).toNat + 1 := by omega
    have sl : ∀ x : Nat, (x <<< 1).testBit ((d - j).toNat + 1) = x.testBit (d - j).toNat := by
      intro x
      rw [Nat.testBit_shiftLeft]
      simp
    refine ⟨?_, ?_, ?_⟩
    · rw [up_cell (by decide), up_cell (by decide), up_ne (by omega), a.1, k1]
      exact bi_e (by show _ ↔ (q.1 <<< 1).testBit _ = true; rw [sl])
    · rw [up_cell (by decide), up_ne (by omega), up_cell (by decide), a.2.1, k1]
      exact bi_e (by show _ ↔ ((q.2.1 <<< 1) ||| 1).testBit _ = true; rw [tbO, sl]; simp)
    · rw [up_ne (by omega), up_cell (by decide), up_cell (by decide), a.2.2, k1]
      exact bi_e (by show _ ↔ (q.2.2 <<< 1).testBit _ = true; rw [sl])
theorem AR_H {u : Wd} {q : Q3} {d : Int} (h : AR u q d) : AR u (qH q) (d - 1) := by
  intro j j0 j1
  have a := h j j0 (by omega)
  have k1 : (d - j).toNat = 1 + (d - 1 - j).toNat := by omega
  rw [k1] at a
  refine ⟨a.1.trans (bi_e ?_), a.2.1.trans (bi_e ?_), a.2.2.trans (bi_e ?_)⟩
  · show _ ↔ (q.1 >>> 1).testBit _ = true; rw [Nat.testBit_shiftRight]
  · show _ ↔ (q.2.1 >>> 1).testBit _ = true; rw [Nat.testBit_shiftRight]
  · show _ ↔ (q.2.2 >>> 1).testBit _ = true; rw [Nat.testBit_shiftRight]
theorem AR_V {u : Wd} {q : Q3} {d : Int} (h : AR u q d) (hd : 0 ≤ d) : qV q = 1 ↔ (¬ u 16 d = 0 ∨ ¬ u 17 d = 0) := by
  have a := h d hd (by omega)
  rw [show (d - d).toNat = 0 by omega] at a
  rw [qV_1, a.1, a.2.1, bi_eq0, bi_eq0]
  cases q.1.testBit 0 <;> cases q.2.1.testBit 0 <;> simp
theorem AR_B {u : Wd} {q : Q3} {d v : Int} (h : AR u q d) (hd : 0 ≤ d) (hv : v = if ¬ u 16 d = 0 ∨ ¬ u 17 d = 0 then 1 else 0) : AR (up (up u 16 d v) 17 d 1) (qB q) d := by
  intro j j0 j1
  have a := h j j0 j1
  refine ⟨?_, ?_, by rw [up_cell (by decide), up_cell (by decide)]; exact a.2.2⟩
  · rw [up_cell (by decide)]
    show _ = bi ((q.1 ||| (q.2.1 &&& 1)).testBit (d - j).toNat = true)
    rw [Nat.testBit_or, tbA]
    by_cases e : j = d
    · subst e
      rw [show (j - j).toNat = 0 by omega] at a ⊢
      rw [up_self, hv, a.1, a.2.1]
      cases q.1.testBit 0 <;> cases q.2.1.testBit 0 <;> simp [bi]
    · rw [up_ne (by omega), a.1, decide_eq_false (show ¬ 0 = (d - j).toNat by omega), Bool.and_false, Bool.or_false]
  · show _ = bi ((q.2.1 ||| 1).testBit (d - j).toNat = true)
    rw [tbO]
    by_cases e : j = d
    · subst e
      rw [up_self, show (j - j).toNat = 0 by omega]
      exact (bi_t (by simp)).symm
    · rw [up_ne (by omega), up_cell (by decide), a.2.1, decide_eq_false (show ¬ 0 = (d - j).toNat by omega), Bool.or_false]
theorem AR_T {u : Wd} {q : Q3} {d v z : Int} {n : Nat} (h : AR u q d) (hd : 0 ≤ d ∧ d ≤ 60) (hz : z = (n : Nat)) (hn : n ≤ 1) (hv : v = if ¬ u 17 d = 0 ∧ ¬ z = u 18 d then 1 else 0) : AR (up (up u 17 d v) 18 d 0) (qT n q) d := by
  intro j j0 j1
  have a := h j j0 j1
  have k64 : (d - j).toNat < 64 := by omega
  have x0 := xv0 (f := q.2.2) hn
  refine ⟨by rw [up_cell (by decide), up_cell (by decide)]; exact a.1, ?_, ?_⟩
  · rw [up_cell (by decide)]
    show _ = bi ((if (n ^^^ (q.2.2 &&& 1)) = 0 then q.2.1 &&& M2 else q.2.1).testBit (d - j).toNat = true)
    by_cases e : j = d
    · subst e
      rw [show (j - j).toNat = 0 by omega] at a ⊢
      rw [up_self, hv, a.2.1, a.2.2, hz]
      by_cases c : (n ^^^ (q.2.2 &&& 1)) = 0
      · rw [if_pos c, tbM _ (by omega)]
        have c2 := x0.mp c
        have e0 : ((n : Nat) : Int) = bi (q.2.2.testBit 0 = true) := by
          by_cases p : q.2.2.testBit 0 = true
          · rw [bi_t p]; have := c2.mpr p; omega
          · rw [bi_f p]; have : ¬ n = 1 := fun y => p (c2.mp y); omega
        rw [if_neg (fun y => y.2 e0)]
        exact (bi_f (by simp)).symm
      · rw [if_neg c]
        have e0 : ¬ ((n : Nat) : Int) = bi (q.2.2.testBit 0 = true) := by
          intro y
          refine c (x0.mpr ⟨fun y1 => ?_, fun y1 => ?_⟩)
          · refine Classical.byContradiction (fun p => ?_)
            rw [bi_f p] at y; omega
          · rw [bi_t y1] at y; omega
        cases p : q.2.1.testBit 0
        · rw [if_neg (fun y => y.1 (bi_f (by simp)))]; exact (bi_f (by simp)).symm
        · rw [if_pos ⟨by rw [bi_t rfl]; decide, e0⟩]; exact (bi_t rfl).symm
    · rw [up_ne (by omega), a.2.1]
      by_cases c : (n ^^^ (q.2.2 &&& 1)) = 0
      · rw [if_pos c, tbM _ k64, decide_eq_false (show ¬ 0 = (d - j).toNat by omega), Bool.not_false, Bool.and_true]
      · rw [if_neg c]
  · show _ = bi ((q.2.2 &&& M2).testBit (d - j).toNat = true)
    rw [tbM _ k64]
    by_cases e : j = d
    · subst e
      rw [up_self, show (j - j).toNat = 0 by omega]
      exact (bi_f (by simp)).symm
    · rw [up_ne (by omega), up_cell (by decide), a.2.2, decide_eq_false (show ¬ 0 = (d - j).toNat by omega), Bool.not_false, Bool.and_true]
/-! a text that is one, from a place on -/
def VS (L : Int → Int) (e i s d : Int) : Prop := ∃ x : Int, scan L (e - i).toNat i s d = (e, x, 0) ∧ (x = 3 ∨ x = 7 ∨ x = 8)
theorem VS_s {L : Int → Int} {e i s d : Int} (hi : i < e) (h : VS L e i s d) : ¬ tnx s (L i) d = 9 ∧ VS L e (i + 1) (tnx s (L i) d) (d + dep (L i)) := by
  obtain ⟨x, h1, h2⟩ := h
  rw [show (e - i).toNat = (e - (i + 1)).toNat + 1 by omega] at h1
  have n9 : ¬ tnx s (L i) d = 9 := by
    intro q
    rw [scan_f q] at h1
    injection h1 with a b
    omega
  rw [scan_s n9] at h1
  exact ⟨n9, x, h1, h2⟩
theorem VS_e {L : Int → Int} {e s d : Int} (h : VS L e e s d) : (s = 3 ∨ s = 7 ∨ s = 8) ∧ d = 0 := by
  obtain ⟨x, h1, h2⟩ := h
  rw [show (e - e).toNat = 0 by omega] at h1
  injection h1 with a b
  injection b with c f
  subst c
  exact ⟨h2, f⟩
theorem tn4 {c d : Int} (h : ¬ tnx 4 c d = 9) : ((c = 33 ∨ c = 40) ∧ tnx 4 c d = 4) ∨ ((c = 108 ∨ c = 107 ∨ c = 110 ∨ c = 114) ∧ tnx 4 c d = 5) := by
  unfold tnx at h ⊢
  simp only [if_neg (show ¬ (4 : Int) = 0 by omega), if_neg (show ¬ (4 : Int) = 1 by omega), if_neg (show ¬ (4 : Int) = 2 by omega), if_neg (show ¬ (4 : Int) = 3 by omega), if_pos] at h ⊢
  (repeat' split) <;> (repeat' split at h) <;> omega
theorem tn5 {c d : Int} (h : ¬ tnx 5 c d = 9) : (60 ≤ c ∧ c ≤ 62) ∧ tnx 5 c d = 6 := by
  unfold tnx at h ⊢
  simp only [if_neg (show ¬ (5 : Int) = 0 by omega), if_neg (show ¬ (5 : Int) = 1 by omega), if_neg (show ¬ (5 : Int) = 2 by omega), if_neg (show ¬ (5 : Int) = 3 by omega), if_neg (show ¬ (5 : Int) = 4 by omega), if_pos] at h ⊢
  (repeat' split) <;> (repeat' split at h) <;> omega
theorem tn6 {c d : Int} (h : ¬ tnx 6 c d = 9) : (48 ≤ c ∧ c ≤ 57) ∧ tnx 6 c d = 7 := by
  unfold tnx at h ⊢
  simp only [if_neg (show ¬ (6 : Int) = 0 by omega), if_neg (show ¬ (6 : Int) = 1 by omega), if_neg (show ¬ (6 : Int) = 2 by omega), if_neg (show ¬ (6 : Int) = 3 by omega), if_neg (show ¬ (6 : Int) = 4 by omega), if_neg (show ¬ (6 : Int) = 5 by omega), if_pos] at h ⊢
  (repeat' split) <;> (repeat' split at h) <;> omega
theorem tn78 {s c d : Int} (hs : s = 7 ∨ s = 8) (h : ¬ tnx s c d = 9) : (s = 7 ∧ (48 ≤ c ∧ c ≤ 57) ∧ tnx s c d = 8) ∨ (c = 41 ∧ 0 < d ∧ tnx s c d = 8) ∨ ((c = 124 ∨ c = 38) ∧ tnx s c d = 4) := by
  unfold tnx tnf at h ⊢
  rw [if_neg (by omega), if_neg (by omega), if_neg (by omega), if_neg (by omega), if_neg (by omega), if_neg (by omega), if_neg (by omega)] at h ⊢
  (repeat' split) <;> (repeat' split at h) <;> omega
theorem tn0 {c d : Int} (h : ¬ tnx 0 c d = 9) : (c = 67 ∨ c = 66) ∧ tnx 0 c d = 1 := by
  unfold tnx at h ⊢
  rw [if_pos rfl] at h ⊢
  (repeat' split) <;> (repeat' split at h) <;> omega
theorem tn1 {c d : Int} (h : ¬ tnx 1 c d = 9) : c = 58 ∧ tnx 1 c d = 2 := by
  unfold tnx at h ⊢
  rw [if_neg (by omega), if_pos rfl] at h ⊢
  (repeat' split) <;> (repeat' split at h) <;> omega
theorem tn2 {c d : Int} (h : ¬ tnx 2 c d = 9) : (c = 48 ∨ c = 49) ∧ tnx 2 c d = 3 := by
  unfold tnx at h ⊢
  rw [if_neg (by omega), if_neg (by omega), if_pos rfl] at h ⊢
  (repeat' split) <;> (repeat' split at h) <;> omega
theorem tn3 {c d : Int} (h : ¬ tnx 3 c d = 9) : c = 63 ∧ tnx 3 c d = 4 := by
  unfold tnx at h ⊢
  rw [if_neg (by omega), if_neg (by omega), if_neg (by omega), if_pos rfl] at h ⊢
  (repeat' split) <;> (repeat' split at h) <;> omega
/-- a whole text: its act, its value, its condition -/
theorem VS_4 {L : Int → Int} {e : Int} (h0 : 0 ≤ e) (h : VS L e 0 0 0) : 3 ≤ e ∧ (L 0 = 67 ∨ L 0 = 66) ∧ (L 2 = 48 ∨ L 2 = 49) ∧ (e = 3 ∨ (4 < e ∧ VS L e 4 4 0)) := by
  have nz : ∀ i s d : Int, VS L e i s d → i ≤ e → ¬ (s = 3 ∨ s = 7 ∨ s = 8) → i < e := by
    intro i s d q hi hs
    rcases (show i < e ∨ i = e by omega) with y | y
    · exact y
    · subst y; exact absurd (VS_e q).1 hs
  have l0 := nz _ _ _ h h0 (by omega)
  have s0 := VS_s l0 h
  have t0 := tn0 s0.1
  have v1 := s0.2
  rw [t0.2, show dep (L 0) = 0 from dep_0 (by omega) (by omega)] at v1
  have l1 := nz _ _ _ v1 (by omega) (by omega)
  have s1 := VS_s l1 v1
  have t1 := tn1 s1.1
  have v2 := s1.2
  rw [t1.2, show dep (L (0 + 1)) = 0 from dep_0 (by omega) (by omega)] at v2
  have l2 := nz _ _ _ v2 (by omega) (by omega)
  have s2 := VS_s l2 v2
  have t2 := tn2 s2.1
  have v3 := s2.2
  rw [t2.2, show dep (L (0 + 1 + 1)) = 0 from dep_0 (by omega) (by omega)] at v3
  have e2 : L 2 = L (0 + 1 + 1) := by congr 1
  refine ⟨by omega, t0.1, by rw [e2]; exact t2.1, ?_⟩
  rcases (show e = 3 ∨ 3 < e by omega) with q | q
  · exact Or.inl q
  · right
    have s3 := VS_s (show 0 + 1 + 1 + 1 < e by omega) v3
    have t3 := tn3 s3.1
    have v4 := s3.2
    rw [t3.2, show dep (L (0 + 1 + 1 + 1)) = 0 from dep_0 (by omega) (by omega)] at v4
    have v5 : VS L e 4 4 0 := v4
    exact ⟨nz _ _ _ v5 (by omega) (by omega), v5⟩

