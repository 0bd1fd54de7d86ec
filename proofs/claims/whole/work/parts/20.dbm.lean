/-! bounds of years between points: a matrix, and the values that keep it -/
def Sat (n : Int) (M : Int → Int → Int) (v : Int → Int) : Prop := ∀ a b : Int, 0 ≤ a → a < n → 0 ≤ b → b < n → v b - v a ≤ M a b
/-- closed, and all within 2000 years of point 0 -/
def gok (n : Int) (M : Int → Int → Int) : Prop := (∀ a : Int, 0 ≤ a → a < n → M a a = 0) ∧ (∀ a b c : Int, 0 ≤ a → a < n → 0 ≤ b → b < n → 0 ≤ c → c < n → M a c ≤ M a b + M b c) ∧ ∀ a : Int, 0 ≤ a → a < n → M 0 a ≤ 2000 ∧ M a 0 ≤ 2000
theorem gok_R {n : Int} {M : Int → Int → Int} (h : gok n M) {a b : Int} (a0 : 0 ≤ a) (a1 : a < n) (b0 : 0 ≤ b) (b1 : b < n) : -4000 ≤ M a b ∧ M a b ≤ 4000 := by
  have h1 := h.2.1 a 0 b a0 a1 (by omega) (by omega) b0 b1
  have h2 := h.2.1 b 0 a b0 b1 (by omega) (by omega) a0 a1
  have h3 := h.2.1 a b a a0 a1 b0 b1 a0 a1
  have h4 := h.1 a a0 a1
  have h5 := h.2.2 a a0 a1
  have h6 := h.2.2 b b0 b1
  omega
def hld (M : Int → Int → Int) (f t m : Int) (a b : Int) : Int := min (M a b) (M a f + m + M t b)
theorem hld_sat {n : Int} {M : Int → Int → Int} (h : gok n M) {f t m : Int} (f0 : 0 ≤ f) (f1 : f < n) (t0 : 0 ≤ t) (t1 : t < n) (v : Int → Int) : Sat n (hld M f t m) v ↔ Sat n M v ∧ v t - v f ≤ m := by
  constructor
  · intro s
    refine ⟨fun a b a0 a1 b0 b1 => ?_, ?_⟩
    · have := s a b a0 a1 b0 b1; unfold hld at this; omega
    · have := s f t f0 f1 t0 t1
      have h1 := h.1 f f0 f1
      have h2 := h.1 t t0 t1
      unfold hld at this; omega
  · rintro ⟨s, hm⟩ a b a0 a1 b0 b1
    have h1 := s a b a0 a1 b0 b1
    have h2 := s a f a0 a1 f0 f1
    have h3 := s t b t0 t1 b0 b1
    unfold hld; omega
theorem hld_ok {n : Int} {M : Int → Int → Int} (h : gok n M) {f t m : Int} (f0 : 0 ≤ f) (f1 : f < n) (t0 : 0 ≤ t) (t1 : t < n) (hm : -(M t f) ≤ m) : gok n (hld M f t m) := by
  refine ⟨fun a a0 a1 => ?_, fun a b c a0 a1 b0 b1 c0 c1 => ?_, fun a a0 a1 => ?_⟩
  · have h1 := h.1 a a0 a1
    have h2 := h.2.1 t a f t0 t1 a0 a1 f0 f1
    unfold hld; omega
  · have h1 := h.2.1 a b c a0 a1 b0 b1 c0 c1
    have h2 := h.2.1 t b c t0 t1 b0 b1 c0 c1
    have h3 := h.2.1 a b f a0 a1 b0 b1 f0 f1
    have h4 := h.2.1 t b f t0 t1 b0 b1 f0 f1
    unfold hld; omega
  · have := h.2.2 a a0 a1
    unfold hld; omega
theorem hld_no {n : Int} {M : Int → Int → Int} {f t m : Int} (f0 : 0 ≤ f) (f1 : f < n) (t0 : 0 ≤ t) (t1 : t < n) (hm : m < -(M t f)) (v : Int → Int) (s : Sat n M v) : ¬ v t - v f ≤ m := by
  have := s t f t0 t1 f0 f1
  omega
theorem gok_row {n : Int} {M : Int → Int → Int} (h : gok n M) {i : Int} (i0 : 0 ≤ i) (i1 : i < n) : Sat n M (fun k => M i k) := by
  intro a b a0 a1 b0 b1
  have := h.2.1 i a b i0 i1 a0 a1 b0 b1
  show M i b - M i a ≤ M a b
  omega
theorem hld_ex {n : Int} {M : Int → Int → Int} (h : gok n M) {f t m : Int} (f0 : 0 ≤ f) (f1 : f < n) (t0 : 0 ≤ t) (t1 : t < n) : -(M t f) ≤ m ↔ ∃ v, Sat n M v ∧ v t - v f ≤ m := by
  constructor
  · intro hm
    refine ⟨fun k => M t k, gok_row h t0 t1, ?_⟩
    have := h.1 t t0 t1
    show M t t - M t f ≤ m
    omega
  · rintro ⟨v, s, hv⟩
    have := s t f t0 t1 f0 f1
    omega
/-- a matrix that stands for what C says -/
def rep (n : Int) (M : Int → Int → Int) (C : (Int → Int) → Prop) : Prop := gok n M ∧ ∀ v, Sat n M v ↔ C v
theorem rep_c {n : Int} {M : Int → Int → Int} {C D : (Int → Int) → Prop} (h : rep n M C) (e : ∀ v, C v ↔ D v) : rep n M D := ⟨h.1, fun v => (h.2 v).trans (e v)⟩
theorem Sat_m {n : Int} {M N : Int → Int → Int} (e : ∀ a b : Int, 0 ≤ a → a < n → 0 ≤ b → b < n → M a b = N a b) (v : Int → Int) : Sat n M v ↔ Sat n N v := ⟨fun h a b a0 a1 b0 b1 => by rw [← e a b a0 a1 b0 b1]; exact h a b a0 a1 b0 b1, fun h a b a0 a1 b0 b1 => by rw [e a b a0 a1 b0 b1]; exact h a b a0 a1 b0 b1⟩
theorem gok_m {n : Int} {M N : Int → Int → Int} (e : ∀ a b : Int, 0 ≤ a → a < n → 0 ≤ b → b < n → M a b = N a b) (h : gok n M) : gok n N := by
  refine ⟨fun a a0 a1 => ?_, fun a b c a0 a1 b0 b1 c0 c1 => ?_, fun a a0 a1 => ?_⟩
  · rw [← e a a a0 a1 a0 a1]; exact h.1 a a0 a1
  · rw [← e a c a0 a1 c0 c1, ← e a b a0 a1 b0 b1, ← e b c b0 b1 c0 c1]; exact h.2.1 a b c a0 a1 b0 b1 c0 c1
  · rw [← e 0 a (by omega) (by omega) a0 a1, ← e a 0 a0 a1 (by omega) (by omega)]; exact h.2.2 a a0 a1
theorem rep_m {n : Int} {M N : Int → Int → Int} {C : (Int → Int) → Prop} (e : ∀ a b : Int, 0 ≤ a → a < n → 0 ≤ b → b < n → M a b = N a b) (h : rep n M C) : rep n N C := ⟨gok_m e h.1, fun v => (Sat_m e v).symm.trans (h.2 v)⟩
theorem rep_hld {n : Int} {M : Int → Int → Int} {C : (Int → Int) → Prop} (h : rep n M C) {f t m : Int} (f0 : 0 ≤ f) (f1 : f < n) (t0 : 0 ≤ t) (t1 : t < n) (hm : ∃ v, C v ∧ v t - v f ≤ m) : rep n (hld M f t m) (fun v => C v ∧ v t - v f ≤ m) := by
  obtain ⟨v0, c0, d0⟩ := hm
  refine ⟨hld_ok h.1 f0 f1 t0 t1 ((hld_ex h.1 f0 f1 t0 t1).mpr ⟨v0, (h.2 v0).mpr c0, d0⟩), fun v => ?_⟩
  rw [hld_sat h.1 f0 f1 t0 t1 v, h.2 v]
theorem rep_ex {n : Int} {M : Int → Int → Int} {C : (Int → Int) → Prop} (h : rep n M C) {f t m : Int} (f0 : 0 ≤ f) (f1 : f < n) (t0 : 0 ≤ t) (t1 : t < n) : -(M t f) ≤ m ↔ ∃ v, C v ∧ v t - v f ≤ m := by
  rw [hld_ex h.1 f0 f1 t0 t1]
  exact ⟨fun ⟨v, a, b⟩ => ⟨v, (h.2 v).mp a, b⟩, fun ⟨v, a, b⟩ => ⟨v, (h.2 v).mpr a, b⟩⟩
/-- two points told beside point 0: the greatest values, and the least -/
def vhi (M : Int → Int → Int) (p x q y b : Int) : Int := min (min (x + M p b) (y + M q b)) (M 0 b)
def vlo (M : Int → Int → Int) (p x q y b : Int) : Int := max (max (x - M b p) (y - M b q)) (-(M b 0))
def alw (M : Int → Int → Int) (p x q y : Int) : Prop := x ≤ M 0 p ∧ -x ≤ M p 0 ∧ y ≤ M 0 q ∧ -y ≤ M q 0 ∧ y - x ≤ M p q ∧ x - y ≤ M q p
theorem alw_of {n : Int} {M : Int → Int → Int} {p x q y : Int} (hn : 0 < n) (p0 : 0 ≤ p) (p1 : p < n) (q0 : 0 ≤ q) (q1 : q < n) {v : Int → Int} (s : Sat n M v) (hp : v p - v 0 = x) (hq : v q - v 0 = y) : alw M p x q y := by
  have h1 := s 0 p (by omega) hn p0 p1
  have h2 := s p 0 p0 p1 (by omega) hn
  have h3 := s 0 q (by omega) hn q0 q1
  have h4 := s q 0 q0 q1 (by omega) hn
  have h5 := s p q p0 p1 q0 q1
  have h6 := s q p q0 q1 p0 p1
  unfold alw; omega
theorem vhi_sat {n : Int} {M : Int → Int → Int} (h : gok n M) {p x q y : Int} (hn : 0 < n) (p0 : 0 ≤ p) (p1 : p < n) (q0 : 0 ≤ q) (q1 : q < n) : Sat n M (vhi M p x q y) := by
  intro a b a0 a1 b0 b1
  have h1 := h.2.1 p a b p0 p1 a0 a1 b0 b1
  have h2 := h.2.1 q a b q0 q1 a0 a1 b0 b1
  have h3 := h.2.1 0 a b (by omega) hn a0 a1 b0 b1
  unfold vhi; omega
theorem vlo_sat {n : Int} {M : Int → Int → Int} (h : gok n M) {p x q y : Int} (hn : 0 < n) (p0 : 0 ≤ p) (p1 : p < n) (q0 : 0 ≤ q) (q1 : q < n) : Sat n M (vlo M p x q y) := by
  intro a b a0 a1 b0 b1
  have h1 := h.2.1 a b p a0 a1 b0 b1 p0 p1
  have h2 := h.2.1 a b q a0 a1 b0 b1 q0 q1
  have h3 := h.2.1 a b 0 a0 a1 b0 b1 (by omega) hn
  unfold vlo; omega
theorem vhi_pts {n : Int} {M : Int → Int → Int} (h : gok n M) {p x q y : Int} (hn : 0 < n) (p0 : 0 ≤ p) (p1 : p < n) (q0 : 0 ≤ q) (q1 : q < n) (al : alw M p x q y) : vhi M p x q y 0 = 0 ∧ vhi M p x q y p = x ∧ vhi M p x q y q = y := by
  obtain ⟨e1, e2, e3, e4, e5, e6⟩ := al
  have h1 := h.1 0 (by omega) hn
  have h2 := h.1 p p0 p1
  have h3 := h.1 q q0 q1
  unfold vhi; omega
theorem vlo_pts {n : Int} {M : Int → Int → Int} (h : gok n M) {p x q y : Int} (hn : 0 < n) (p0 : 0 ≤ p) (p1 : p < n) (q0 : 0 ≤ q) (q1 : q < n) (al : alw M p x q y) : vlo M p x q y 0 = 0 ∧ vlo M p x q y p = x ∧ vlo M p x q y q = y := by
  obtain ⟨e1, e2, e3, e4, e5, e6⟩ := al
  have h1 := h.1 0 (by omega) hn
  have h2 := h.1 p p0 p1
  have h3 := h.1 q q0 q1
  unfold vlo; omega
theorem vhi_most {n : Int} {M : Int → Int → Int} {p x q y b : Int} (hn : 0 < n) (p0 : 0 ≤ p) (p1 : p < n) (q0 : 0 ≤ q) (q1 : q < n) (b0 : 0 ≤ b) (b1 : b < n) {v : Int → Int} (s : Sat n M v) (hp : v p - v 0 = x) (hq : v q - v 0 = y) : vlo M p x q y b ≤ v b - v 0 ∧ v b - v 0 ≤ vhi M p x q y b := by
  have h1 := s p b p0 p1 b0 b1
  have h2 := s q b q0 q1 b0 b1
  have h3 := s 0 b (by omega) hn b0 b1
  have h4 := s b p b0 b1 p0 p1
  have h5 := s b q b0 b1 q0 q1
  have h6 := s b 0 b0 b1 (by omega) hn
  unfold vhi vlo; omega
