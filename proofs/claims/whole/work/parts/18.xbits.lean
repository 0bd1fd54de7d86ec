/-! longs as bits -/
theorem l64_nat {a : Nat} (h : a < 2 ^ 64) : (Int64.ofInt (a : Int)).toBitVec.toNat = a := by
  rw [i64_n]
  show (BitVec.ofNat 64 a).toNat = a
  rw [BitVec.toNat_ofNat, Nat.mod_eq_of_lt h]
theorem l64_ext {x y : Int64} (h : x.toBitVec.toNat = y.toBitVec.toNat) : x = y := Int64.toBitVec_inj.mp (BitVec.eq_of_toNat_eq h)
theorem hl_or {a b : Nat} (ha : a < 2 ^ 64) (hb : b < 2 ^ 64) : Int64.ofInt (a : Int) ||| Int64.ofInt (b : Int) = Int64.ofInt ((a ||| b : Nat) : Int) := by
  apply l64_ext
  rw [Int64.toBitVec_or, BitVec.toNat_or, l64_nat ha, l64_nat hb, l64_nat (Nat.or_lt_two_pow ha hb)]
theorem hl_and {a b : Nat} (ha : a < 2 ^ 64) (hb : b < 2 ^ 64) : Int64.ofInt (a : Int) &&& Int64.ofInt (b : Int) = Int64.ofInt ((a &&& b : Nat) : Int) := by
  apply l64_ext
  rw [Int64.toBitVec_and, BitVec.toNat_and, l64_nat ha, l64_nat hb, l64_nat (Nat.and_lt_two_pow a hb)]
theorem hl_xor {a b : Nat} (ha : a < 2 ^ 64) (hb : b < 2 ^ 64) : Int64.ofInt (a : Int) ^^^ Int64.ofInt (b : Int) = Int64.ofInt ((a ^^^ b : Nat) : Int) := by
  apply l64_ext
  rw [Int64.toBitVec_xor, BitVec.toNat_xor, l64_nat ha, l64_nat hb, l64_nat (Nat.xor_lt_two_pow ha hb)]
def M2 : Nat := 18446744073709551614
theorem hl_m2 {a : Nat} (ha : a < 2 ^ 64) : Int64.ofInt (a : Int) &&& Int64.ofInt (-2) = Int64.ofInt ((a &&& M2 : Nat) : Int) := by
  have e : Int64.ofInt (-2) = Int64.ofInt ((M2 : Nat) : Int) := by decide
  rw [e, hl_and ha (by decide)]
theorem hl_shl {a : Nat} (ha : a < 2 ^ 63) : Int64.ofInt (a : Int) <<< ((Int32.ofInt 1).toInt64 &&& 63) = Int64.ofInt ((a <<< 1 : Nat) : Int) := by
  have e : (Int32.ofInt 1).toInt64 &&& 63 = 1 := by decide
  apply l64_ext
  rw [e, l64_nat (by rw [Nat.shiftLeft_eq]; omega), Int64.toBitVec_shiftLeft]
  have e2 : ((1 : Int64).toBitVec.smod 64) = 1#64 := by decide
  rw [e2]
  show (((Int64.ofInt (a : Int)).toBitVec <<< (1#64)).toNat) = _
  rw [BitVec.shiftLeft_eq', BitVec.toNat_shiftLeft, l64_nat (by omega)]
  have e3 : (1#64).toNat = 1 := by decide
  rw [e3, Nat.shiftLeft_eq]
  omega
theorem hl_shr {a : Nat} (ha : a < 2 ^ 64) : ((Int64.ofInt (a : Int)).toUInt64 >>> ((Int32.ofInt 1).toInt64.toUInt64 &&& Int64.toUInt64 63)).toInt64 = Int64.ofInt ((a >>> 1 : Nat) : Int) := by
  have e : (Int32.ofInt 1).toInt64.toUInt64 &&& Int64.toUInt64 63 = 1 := by decide
  apply l64_ext
  rw [e, l64_nat (Nat.lt_of_le_of_lt (by rw [Nat.shiftRight_eq_div_pow]; exact Nat.div_le_self _ _) ha), UInt64.toBitVec_toInt64, UInt64.toNat_toBitVec, UInt64.toNat_shiftRight, ← UInt64.toNat_toBitVec, Int64.toBitVec_toUInt64, l64_nat ha]
  rfl
theorem l64_toInt {a : Int} (h : inL a) : (Int64.ofInt a).toInt = a := Int64.toInt_ofInt_of_le (by omega) (by omega)
theorem l64_lt {a b : Int} (ha : inL a) (hb : inL b) : Int64.ofInt a < Int64.ofInt b ↔ a < b := by rw [Int64.lt_iff_toInt_lt, l64_toInt ha, l64_toInt hb]
theorem l64_eq {a b : Int} (ha : inL a) (hb : inL b) : Int64.ofInt a = Int64.ofInt b ↔ a = b := ⟨fun h => by have := congrArg Int64.toInt h; rwa [l64_toInt ha, l64_toInt hb] at this, fun h => by rw [h]⟩
def cmpI (a b : Int) : Int := if a = b then 0 else if b < a then 1 else -1
theorem l64_cmp {a b : Int} (ha : inL a) (hb : inL b) : lg_cmp (Int64.ofInt a) (Int64.ofInt b) = Int32.ofInt (cmpI a b) := by
  unfold lg_cmp cmpI
  simp only [gt_iff_lt, l64_lt hb ha, l64_eq ha hb]
  (repeat' split) <;> first | rfl | omega
theorem cmpI_0 {a b : Int} : cmpI a b = 0 ↔ a = b := by unfold cmpI; (repeat' split) <;> omega
theorem cmpI_R (a b : Int) : -1 ≤ cmpI a b ∧ cmpI a b ≤ 1 := by unfold cmpI; (repeat' split) <;> omega
theorem jr_lcmp {G : Gc} {X : Xc} {own : String} {cc : ByteArray} {nL d : Nat} {ret : Option FieldType} {post : Option Value → Wd → Prop} {pc : Nat} {lv : List (Option Value)} {rest : List Value} {w : Wd} (F : Fx G X own cc nL d ret) {x y : Int64} (hd : decode cc pc = .ok (.lcmp, 1))
    (k : Jw G X post (pc + 1) lv (.int (lg_cmp x y) :: rest) w) : Jw G X post pc lv (.long y :: .long x :: rest) w := by
  intro H locs ls hP hD hS hO hl
  exact W.lcmp F.1 F.2.1 hd (k H locs ls hP hD hS hO hl)
/-! what a condition comes to: three numbers, a bit a bracket that stands open, the innermost lowest: a term held; all factors hold so far; the next one is denied -/
abbrev Q3 : Type := Nat × Nat × Nat
def qN (q : Q3) : Q3 := (q.1, q.2.1, q.2.2 ^^^ 1)
def qP (q : Q3) : Q3 := (q.1 <<< 1, (q.2.1 <<< 1) ||| 1, q.2.2 <<< 1)
def qT (v : Nat) (q : Q3) : Q3 := (q.1, (if (v ^^^ (q.2.2 &&& 1)) = 0 then q.2.1 &&& M2 else q.2.1), q.2.2 &&& M2)
def qH (q : Q3) : Q3 := (q.1 >>> 1, q.2.1 >>> 1, q.2.2 >>> 1)
def qV (q : Q3) : Nat := (q.1 ||| q.2.1) &&& 1
def qE (q : Q3) : Q3 := qT (qV q) (qH q)
def qB (q : Q3) : Q3 := (q.1 ||| (q.2.1 &&& 1), q.2.1 ||| 1, q.2.2)
def qlt (q : Q3) (m : Nat) : Prop := q.1 < 2 ^ m ∧ q.2.1 < 2 ^ m ∧ q.2.2 < 2 ^ m
def isQ (w : Wd) (q : Q3) : Prop := w 17 4 = (q.1 : Int) ∧ w 17 5 = (q.2.1 : Int) ∧ w 17 6 = (q.2.2 : Int)
def s17 (w : Wd) (q : Q3) : Wd := up (up (up w 17 4 q.1) 17 5 q.2.1) 17 6 q.2.2
theorem s17_of {w u : Wd} {q : Q3} (h4 : u 17 4 = (q.1 : Int)) (h5 : u 17 5 = (q.2.1 : Int)) (h6 : u 17 6 = (q.2.2 : Int)) (ho : ∀ (k : Nat) (i : Int), ¬ (k = 17 ∧ (i = 4 ∨ i = 5 ∨ i = 6)) → u k i = w k i) : u = s17 w q := by
  funext k i
  unfold s17
  by_cases e6 : k = 17 ∧ i = 6
  · obtain ⟨rfl, rfl⟩ := e6; rw [up_self, h6]
  · rw [up_ne e6]
    by_cases e5 : k = 17 ∧ i = 5
    · obtain ⟨rfl, rfl⟩ := e5; rw [up_self, h5]
    · rw [up_ne e5]
      by_cases e4 : k = 17 ∧ i = 4
      · obtain ⟨rfl, rfl⟩ := e4; rw [up_self, h4]
      · rw [up_ne e4]; exact ho k i (by omega)
theorem s17_q (w : Wd) (q : Q3) : isQ (s17 w q) q := ⟨rfl, rfl, rfl⟩
theorem s17_s (w : Wd) (q q' : Q3) : s17 (s17 w q) q' = s17 w q' := by
  apply s17_of rfl rfl rfl
  intro k i h
  unfold s17
  rw [up_ne (by omega), up_ne (by omega), up_ne (by omega), up_ne (by omega), up_ne (by omega), up_ne (by omega)]
theorem s17_c (w : Wd) (q : Q3) {k : Nat} (h : k ≠ 17) : s17 w q k = w k := by unfold s17; rw [up_cell h, up_cell h, up_cell h]

