/-! the reference's matrix: at most so many years from one point to another; its point 10 is the year 0 -/
def mm (u : Wd) (a b : Int) : Int := u 19 (11 * a + b)
theorem mm_up {u : Wd} {a b v a' b' : Int} (b0 : 0 ≤ b) (b1 : b < 11) (c0 : 0 ≤ b') (c1 : b' < 11) : mm (up u 19 (11 * a + b) v) a' b' = if a' = a ∧ b' = b then v else mm u a' b' := by
  unfold mm
  by_cases e : a' = a ∧ b' = b
  · obtain ⟨rfl, rfl⟩ := e
    rw [up_self, if_pos ⟨rfl, rfl⟩]
  · rw [if_neg e, up_ne (by omega)]
def c19 (m u : Wd) : Prop := ∀ k : Nat, k ≠ 19 → u k = m k
theorem c19_r (m : Wd) : c19 m m := fun _ _ => rfl
theorem c19_t {a b c : Wd} (h : c19 a b) (g : c19 b c) : c19 a c := fun k q => (g k q).trans (h k q)
theorem c19_up {m u : Wd} (h : c19 m u) (i v : Int) : c19 m (up u 19 i v) := fun k q => by rw [up_cell q]; exact h k q
theorem c19_sm {m u : Wd} (h : c19 m u) : sm m u := ⟨fun k a b => h k (by omega), by rw [h 0 (by decide)], by rw [h 0 (by decide)], by rw [h 0 (by decide)], by rw [h 0 (by decide)], by rw [h 0 (by decide)]⟩
theorem c19_RM {w m u : Wd} (h : c19 m u) (g : RM w m) : RM w u := sm_RM (c19_sm h) g
/-- bounds as they are laid -/
def MB (M : Int → Int → Int) : Prop := ∀ a b : Int, 0 ≤ a → a < 11 → 0 ≤ b → b < 11 → (-3000 ≤ M a b ∧ M a b ≤ 1000000) ∧ (a = b → M a b = 0)
/-- closed -/
def CLD (M : Int → Int → Int) : Prop := (∀ a : Int, 0 ≤ a → a < 11 → M a a = 0) ∧ ∀ a b c : Int, 0 ≤ a → a < 11 → 0 ≤ b → b < 11 → 0 ≤ c → c < 11 → M a b ≤ M a c + M c b
def bdw (m : Wd) (f t l g : Int) : Wd := up (up m 19 (11 * f + t) (min g (m 19 (11 * f + t)))) 19 (11 * t + f) (min (-l) ((up m 19 (11 * f + t) (min g (m 19 (11 * f + t)))) 19 (11 * t + f)))
theorem bdw_of {m : Wd} {f t l g a b : Int} (h1 : a = min g (m 19 (11 * f + t))) (h2 : b = min (-l) ((up m 19 (11 * f + t) a) 19 (11 * t + f))) : bdw m f t l g = up (up m 19 (11 * f + t) a) 19 (11 * t + f) b := by
  subst h1; subst h2; rfl
theorem bdw_c (m : Wd) (f t l g : Int) : c19 m (bdw m f t l g) := fun k q => by unfold bdw; rw [up_cell q, up_cell q]
theorem bdw_m {m : Wd} {f t l g a b : Int} (f0 : 0 ≤ f) (f1 : f < 11) (t0 : 0 ≤ t) (t1 : t < 11) (ne : ¬ f = t) (b0 : 0 ≤ b) (b1 : b < 11) : mm (bdw m f t l g) a b = if a = t ∧ b = f then min (-l) (mm m t f) else if a = f ∧ b = t then min g (mm m f t) else mm m a b := by
  unfold bdw
  rw [mm_up f0 f1 b0 b1]
  have e1 : (up m 19 (11 * f + t) (min g (m 19 (11 * f + t)))) 19 (11 * t + f) = mm m t f := by rw [up_ne (by omega)]; rfl
  rw [e1, mm_up t0 t1 b0 b1]
  rfl
theorem bdw_S {m : Wd} {f t l g : Int} (f0 : 0 ≤ f) (f1 : f < 11) (t0 : 0 ≤ t) (t1 : t < 11) (ne : ¬ f = t) (v : Int → Int) : Sat 11 (mm (bdw m f t l g)) v ↔ Sat 11 (mm m) v ∧ l ≤ v t - v f ∧ v t - v f ≤ g := by
  constructor
  · intro s
    have h1 := s t f t0 t1 f0 f1
    have h2 := s f t f0 f1 t0 t1
    rw [bdw_m f0 f1 t0 t1 ne f0 f1, if_pos ⟨rfl, rfl⟩] at h1
    rw [bdw_m f0 f1 t0 t1 ne t0 t1, if_neg (by omega), if_pos ⟨rfl, rfl⟩] at h2
    refine ⟨fun a b a0 a1 b0 b1 => ?_, by omega, by omega⟩
    have h := s a b a0 a1 b0 b1
    rw [bdw_m f0 f1 t0 t1 ne b0 b1] at h
    by_cases c1 : a = t ∧ b = f
    · obtain ⟨rfl, rfl⟩ := c1; omega
    · rw [if_neg c1] at h
      by_cases c2 : a = f ∧ b = t
      · obtain ⟨rfl, rfl⟩ := c2; omega
      · rw [if_neg c2] at h; exact h
  · rintro ⟨s, h1, h2⟩ a b a0 a1 b0 b1
    have h := s a b a0 a1 b0 b1
    rw [bdw_m f0 f1 t0 t1 ne b0 b1]
    by_cases c1 : a = t ∧ b = f
    · rw [if_pos c1]; obtain ⟨rfl, rfl⟩ := c1; omega
    · rw [if_neg c1]
      by_cases c2 : a = f ∧ b = t
      · rw [if_pos c2]; obtain ⟨rfl, rfl⟩ := c2; omega
      · rw [if_neg c2]; exact h
theorem bdw_B {m : Wd} {f t l g : Int} (f0 : 0 ≤ f) (f1 : f < 11) (t0 : 0 ≤ t) (t1 : t < 11) (ne : ¬ f = t) (hl : l ≤ 3000) (hg : -3000 ≤ g) (h : MB (mm m)) : MB (mm (bdw m f t l g)) := by
  intro a b a0 a1 b0 b1
  have q := h a b a0 a1 b0 b1
  have q1 := h t f t0 t1 f0 f1
  have q2 := h f t f0 f1 t0 t1
  rw [bdw_m f0 f1 t0 t1 ne b0 b1]
  by_cases c1 : a = t ∧ b = f
  · rw [if_pos c1]; exact ⟨by omega, fun e => by omega⟩
  · rw [if_neg c1]
    by_cases c2 : a = f ∧ b = t
    · rw [if_pos c2]; exact ⟨by omega, fun e => by omega⟩
    · rw [if_neg c2]; exact q
/-! a sum of machine ints as one -/
def wrI (a : Int) : Int := (Int32.ofInt a).toInt
theorem wrI_e (a : Int) : Int32.ofInt a = Int32.ofInt (wrI a) := (Int32.ofInt_toInt _).symm
theorem wrI_R (a : Int) : inR (wrI a) := by
  have h1 := Int32.le_toInt (Int32.ofInt a)
  have h2 := Int32.toInt_lt (Int32.ofInt a)
  unfold wrI
  omega
theorem wrI_id {a : Int} (h : inR a) : wrI a = a := iv_toInt h
theorem jr_ni {G : Gc} {X : Xc} {post : Option Value → Wd → Prop} {pc : Nat} {lv : List (Option Value)} {rest : List Value} {w : Wd} {a b : Int} (h : Int32.ofInt a = Int32.ofInt b) (k : Jw G X post pc lv (iv b :: rest) w) : Jw G X post pc lv (iv a :: rest) w := by
  have e : iv a = iv b := by show Value.int (Int32.ofInt a) = Value.int (Int32.ofInt b); rw [h]
  rw [e]; exact k
/-! all ways by way of the points ahead of k -/
def FA (m : Wd) (M : Int → Int → Int) (k : Int) : Prop := (∀ a : Int, 0 ≤ a → a < 11 → M a a = 0) ∧ (∀ a b c : Int, 0 ≤ a → a < 11 → 0 ≤ b → b < 11 → 0 ≤ c → c < k → M a b ≤ M a c + M c b) ∧ (∀ a b : Int, 0 ≤ a → a < 11 → 0 ≤ b → b < 11 → -(3000 * (2 ^ k.toNat : Nat)) ≤ M a b ∧ M a b ≤ 1000000) ∧ ∀ v, Sat 11 M v ↔ Sat 11 (mm m) v
def FB (m : Wd) (M : Int → Int → Int) : Prop := (∃ a : Int, (0 ≤ a ∧ a < 11) ∧ M a a < 0) ∧ ¬ ∃ v, Sat 11 (mm m) v
def FK (m u : Wd) (k : Int) : Prop := FA m (mm u) k ∨ FB m (mm u)
def FI (m u : Wd) (k i j : Int) : Prop := (∃ D, FA m D k ∧ ∀ a b : Int, 0 ≤ a → a < 11 → 0 ≤ b → b < 11 → mm u a b = if a < i ∨ (a = i ∧ b < j) then hld D k k 0 a b else D a b) ∨ FB m (mm u)
theorem p2k {k : Int} (h1 : k ≤ 11) : 1 ≤ ((2 ^ k.toNat : Nat) : Int) ∧ ((2 ^ k.toNat : Nat) : Int) ≤ 2048 := by
  have a : (2 : Nat) ^ k.toNat ≤ 2 ^ 11 := Nat.pow_le_pow_right (by omega) (by omega)
  have b : 0 < (2 : Nat) ^ k.toNat := Nat.two_pow_pos _
  generalize (2 : Nat) ^ k.toNat = p at a b ⊢
  omega
theorem FA_0 {m : Wd} (h : MB (mm m)) : FA m (mm m) 0 := by
  refine ⟨fun a a0 a1 => (h a a a0 a1 a0 a1).2 rfl, fun a b c _ _ _ _ c0 c1 => by omega, fun a b a0 a1 b0 b1 => ?_, fun v => Iff.rfl⟩
  have q := (h a b a0 a1 b0 b1).1
  have e : ((2 ^ (0 : Int).toNat : Nat) : Int) = 1 := by decide
  rw [e]; omega
theorem FI_0 {m u : Wd} {k : Int} (h : FK m u k) : FI m u k 0 0 := by
  rcases h with h | h
  · exact Or.inl ⟨mm u, h, fun a b a0 _ b0 _ => by rw [if_neg (by omega)]⟩
  · exact Or.inr h
theorem FI_row {m u : Wd} {k i j : Int} (hj : 11 ≤ j) (h : FI m u k i j) : FI m u k (i + 1) 0 := by
  rcases h with ⟨D, hD, h⟩ | h
  · refine Or.inl ⟨D, hD, fun a b a0 a1 b0 b1 => ?_⟩
    rw [h a b a0 a1 b0 b1]
    by_cases e : a < i ∨ (a = i ∧ b < j)
    · rw [if_pos e, if_pos (by omega)]
    · rw [if_neg e, if_neg (by omega)]
  · exact Or.inr h
theorem FI_s {m u : Wd} {k i j z : Int} (k0 : 0 ≤ k) (k1 : k < 11) (i0 : 0 ≤ i) (i1 : i < 11) (j0 : 0 ≤ j) (j1 : j < 11) (h : FI m u k i j) (hz : z = min (wrI (mm u i k + mm u k j)) (mm u i j)) : FI m (up u 19 (11 * i + j) z) k i (j + 1) := by
  rcases h with ⟨D, hD, h⟩ | ⟨⟨a, ha, hn⟩, h2⟩
  · refine Or.inl ⟨D, hD, fun a b a0 a1 b0 b1 => ?_⟩
    have kk := hD.1 k k0 k1
    have pk := p2k (k := k) (by omega)
    have r1 := hD.2.2.1 i k i0 i1 k0 k1
    have r2 := hD.2.2.1 k j k0 k1 j0 j1
    have e1 : mm u i k = D i k := by
      rw [h i k i0 i1 k0 k1]
      split
      · unfold hld; rw [kk]; omega
      · rfl
    have e2 : mm u k j = D k j := by
      rw [h k j k0 k1 j0 j1]
      split
      · unfold hld; rw [kk]; omega
      · rfl
    have e3 : mm u i j = D i j := by rw [h i j i0 i1 j0 j1, if_neg (by omega)]
    have ew : wrI (mm u i k + mm u k j) = D i k + D k j := by
      rw [e1, e2]
      generalize ((2 ^ k.toNat : Nat) : Int) = p at pk r1 r2
      exact wrI_id (by omega)
    rw [mm_up j0 j1 b0 b1]
    by_cases e : a = i ∧ b = j
    · obtain ⟨rfl, rfl⟩ := e
      rw [if_pos ⟨rfl, rfl⟩, if_pos (by omega), hz, ew, e3]
      unfold hld; omega
    · rw [if_neg e, h a b a0 a1 b0 b1]
      by_cases c : a < i ∨ (a = i ∧ b < j)
      · rw [if_pos c, if_pos (by omega)]
      · rw [if_neg c, if_neg (by omega)]
  · refine Or.inr ⟨⟨a, ha, ?_⟩, h2⟩
    rw [mm_up j0 j1 ha.1 ha.2]
    by_cases e : a = i ∧ a = j
    · rw [if_pos e, hz]
      obtain ⟨rfl, e2⟩ := e
      rw [← e2]; omega
    · rw [if_neg e]; exact hn
theorem hld_S {D : Int → Int → Int} {k : Int} (k0 : 0 ≤ k) (k1 : k < 11) (v : Int → Int) : Sat 11 (hld D k k 0) v ↔ Sat 11 D v := by
  constructor
  · intro s a b a0 a1 b0 b1
    have := s a b a0 a1 b0 b1
    unfold hld at this; omega
  · intro s a b a0 a1 b0 b1
    have h1 := s a b a0 a1 b0 b1
    have h2 := s a k a0 a1 k0 k1
    have h3 := s k b k0 k1 b0 b1
    unfold hld; omega
theorem FK_s {m u : Wd} {k i : Int} (k0 : 0 ≤ k) (k1 : k < 11) (hi : 11 ≤ i) (h : FI m u k i 0) : FK m u (k + 1) := by
  rcases h with ⟨D, hD, h⟩ | h
  · have e : ∀ a b : Int, 0 ≤ a → a < 11 → 0 ≤ b → b < 11 → mm u a b = hld D k k 0 a b := fun a b a0 a1 b0 b1 => by rw [h a b a0 a1 b0 b1, if_pos (by omega)]
    have hS : ∀ v, Sat 11 (mm u) v ↔ Sat 11 (mm m) v := fun v => (Sat_m e v).trans ((hld_S k0 k1 v).trans (hD.2.2.2 v))
    have kk := hD.1 k k0 k1
    by_cases c : ∃ a : Int, (0 ≤ a ∧ a < 11) ∧ mm u a a < 0
    · refine Or.inr ⟨c, fun ⟨v, q⟩ => ?_⟩
      obtain ⟨a, ha, hn⟩ := c
      have := (hS v).mpr q a a ha.1 ha.2 ha.1 ha.2
      omega
    · refine Or.inl ⟨fun a a0 a1 => ?_, fun a b c a0 a1 b0 b1 c0 c1 => ?_, fun a b a0 a1 b0 b1 => ?_, hS⟩
      · have h1 : ¬ mm u a a < 0 := fun q => c ⟨a, ⟨a0, a1⟩, q⟩
        have h2 := hD.1 a a0 a1
        rw [e a a a0 a1 a0 a1] at h1 ⊢
        unfold hld at h1 ⊢; omega
      · rw [e a b a0 a1 b0 b1, e a c a0 a1 c0 (by omega), e c b c0 (by omega) b0 b1]
        rcases (show c < k ∨ c = k by omega) with ck | ck
        · have t1 := hD.2.1 a b c a0 a1 b0 b1 c0 ck
          have t2 := hD.2.1 a k c a0 a1 k0 k1 c0 ck
          have t3 := hD.2.1 k b c k0 k1 b0 b1 c0 ck
          have t4 := hD.2.1 k k c k0 k1 k0 k1 c0 ck
          unfold hld; omega
        · subst ck
          unfold hld; omega
      · rw [e a b a0 a1 b0 b1]
        have r1 := hD.2.2.1 a b a0 a1 b0 b1
        have r2 := hD.2.2.1 a k a0 a1 k0 k1
        have r3 := hD.2.2.1 k b k0 k1 b0 b1
        have pe : ((2 ^ (k + 1).toNat : Nat) : Int) = 2 * ((2 ^ k.toNat : Nat) : Int) := by
          rw [show (k + 1).toNat = k.toNat + 1 by omega, Nat.pow_succ]; omega
        have pk := p2k (k := k) (by omega)
        rw [pe]
        generalize ((2 ^ k.toNat : Nat) : Int) = p at pk r1 r2 r3 ⊢
        unfold hld; omega
  · exact Or.inr h
theorem FA_c {m : Wd} {M : Int → Int → Int} {k : Int} (hk : 11 ≤ k) (h : FA m M k) : CLD M ∧ ∃ v, Sat 11 (mm m) v := by
  refine ⟨⟨h.1, fun a b c a0 a1 b0 b1 c0 c1 => h.2.1 a b c a0 a1 b0 b1 c0 (by omega)⟩, fun j => M 0 j, (h.2.2.2 _).mp (fun a b a0 a1 b0 b1 => ?_)⟩
  have := h.2.1 0 b a (by omega) (by omega) b0 b1 a0 (by omega)
  show M 0 b - M 0 a ≤ M a b
  omega
/-- the least and the greatest year of a point, told from point 10 -/
theorem cld_mn {M : Int → Int → Int} (h : CLD M) {r : Int} (r0 : 0 ≤ r) (r1 : r < 11) : (∃ v, Sat 11 M v ∧ v r - v 10 = -(M r 10)) ∧ ∀ v, Sat 11 M v → -(M r 10) ≤ v r - v 10 := by
  refine ⟨⟨fun j => M r j, fun a b a0 a1 b0 b1 => ?_, ?_⟩, fun v s => ?_⟩
  · have := h.2 r b a r0 r1 b0 b1 a0 a1
    show M r b - M r a ≤ M a b
    omega
  · have := h.1 r r0 r1
    show M r r - M r 10 = -(M r 10)
    omega
  · have := s r 10 r0 r1 (by omega) (by omega)
    omega
theorem cld_mx {M : Int → Int → Int} (h : CLD M) {r : Int} (r0 : 0 ≤ r) (r1 : r < 11) : (∃ v, Sat 11 M v ∧ v r - v 10 = M 10 r) ∧ ∀ v, Sat 11 M v → v r - v 10 ≤ M 10 r := by
  refine ⟨⟨fun j => M 10 j, fun a b a0 a1 b0 b1 => ?_, ?_⟩, fun v s => ?_⟩
  · have := h.2 10 b a (by omega) (by omega) b0 b1 a0 a1
    show M 10 b - M 10 a ≤ M a b
    omega
  · have := h.1 10 (by omega) (by omega)
    show M 10 r - M 10 10 = M 10 r
    omega
  · have := s 10 r (by omega) (by omega) r0 r1
    omega

