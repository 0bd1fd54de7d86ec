/-! bits -/
theorem i32_n (n : Nat) : Int32.ofInt (n : Int) = nI n := by rw [Int32.ofInt_eq_ofNat]; rfl
theorem i32_nat {a : Int} (h0 : 0 ≤ a) : Int32.ofInt a = nI a.toNat := by rw [← i32_n, Int.toNat_of_nonneg h0]
theorem nI_or {a b : Nat} (ha : a < 2 ^ 31) (hb : b < 2 ^ 31) : nI a ||| nI b = nI (a ||| b) := by
  apply Int32.toBitVec_inj.mp
  apply BitVec.eq_of_toNat_eq
  have h : a ||| b < 2 ^ 31 := Nat.or_lt_two_pow ha hb
  rw [Int32.toBitVec_or, BitVec.toNat_or, pk_tn (by omega), pk_tn (by omega), pk_tn (by omega)]
theorem nI_and {a b : Nat} (ha : a < 2 ^ 32) (hb : b < 2 ^ 32) : nI a &&& nI b = nI (a &&& b) := by
  apply Int32.toBitVec_inj.mp
  apply BitVec.eq_of_toNat_eq
  have h : a &&& b < 2 ^ 32 := Nat.and_lt_two_pow a hb
  rw [Int32.toBitVec_and, BitVec.toNat_and, pk_tn ha, pk_tn hb, pk_tn h]
theorem b_or {a b : Int} (ha : 0 ≤ a ∧ a ≤ 2147483647) (hb : 0 ≤ b ∧ b ≤ 2147483647) : Int32.ofInt a ||| Int32.ofInt b = Int32.ofInt ((a.toNat ||| b.toNat : Nat) : Int) := by
  rw [i32_nat ha.1, i32_nat hb.1, i32_n, nI_or (by omega) (by omega)]
theorem b_and {a b : Int} (ha : 0 ≤ a ∧ a ≤ 2147483647) (hb : 0 ≤ b ∧ b ≤ 2147483647) : Int32.ofInt a &&& Int32.ofInt b = Int32.ofInt ((a.toNat &&& b.toNat : Nat) : Int) := by
  rw [i32_nat ha.1, i32_nat hb.1, i32_n, nI_and (by omega) (by omega)]
theorem b_not (a : Int) : Int32.ofInt a ^^^ Int32.ofInt (-1) = Int32.ofInt (-a - 1) := by
  have h : Int32.ofInt (-1) = -1 := by decide
  rw [h, show -a - 1 = -(a + 1) by omega, Int32.ofInt_neg, Int32.ofInt_add]
  apply Int32.toBitVec_inj.mp
  have e : ∀ x : BitVec 32, x ^^^ (-1 : BitVec 32) = -(x + 1) := by
    intro x
    have h1 : (-1 : BitVec 32) = BitVec.allOnes 32 := by decide
    rw [h1, BitVec.xor_allOnes, BitVec.not_eq_neg_add, BitVec.neg_add]
    rfl
  exact e _
theorem sh_31 : ∀ k, k < 32 → ((nI k &&& 31).toBitVec.smod 32).toNat = k := by decide
theorem b_shl {a k : Int} (ha : 0 ≤ a) (hk : 0 ≤ k ∧ k ≤ 31) (h : a.toNat * 2 ^ k.toNat < 2 ^ 32) : Int32.ofInt a <<< (Int32.ofInt k &&& 31) = Int32.ofInt ((a.toNat * 2 ^ k.toNat : Nat) : Int) := by
  rw [i32_nat ha, i32_nat hk.1, i32_n, pk_shlN _ k.toNat (sh_31 _ (by omega)) h]
theorem b_shl1 {k : Int} (hk : 0 ≤ k ∧ k ≤ 30) : Int32.ofInt 1 <<< (Int32.ofInt k &&& 31) = Int32.ofInt ((2 ^ k.toNat : Nat) : Int) := by
  have h : (2 : Nat) ^ k.toNat < 2 ^ 32 := Nat.pow_lt_pow_right (by omega) (by omega)
  rw [b_shl (by omega) (by omega) (by simpa using h)]
  simp
theorem b_shr {a k : Int} (ha : 0 ≤ a ∧ a ≤ 2147483647) (hk : 0 ≤ k ∧ k ≤ 31) : Int32.ofInt a >>> (Int32.ofInt k &&& 31) = Int32.ofInt ((a.toNat / 2 ^ k.toNat : Nat) : Int) := by
  rw [i32_nat ha.1, i32_nat hk.1, i32_n, pk_shrN (by omega) _ k.toNat (sh_31 _ (by omega))]
/-- the numbers below n of which P holds, as bits -/
noncomputable def bs (P : Nat → Prop) : Nat → Nat
  | 0 => 0
  | n + 1 => bs P n ||| @ite _ (P n) (Classical.propDecidable _) (2 ^ n) 0
theorem bs_lt (P : Nat → Prop) : ∀ n, bs P n < 2 ^ n
  | 0 => by simp [bs]
  | n + 1 => by
    have h1 : bs P n < 2 ^ (n + 1) := Nat.lt_trans (bs_lt P n) (Nat.pow_lt_pow_right (by omega) (by omega))
    have h2 : @ite _ (P n) (Classical.propDecidable _) (2 ^ n) 0 < 2 ^ (n + 1) := by
      split
      · exact Nat.pow_lt_pow_right (by omega) (by omega)
      · exact Nat.two_pow_pos _
    exact Nat.or_lt_two_pow h1 h2
theorem bs_bit (P : Nat → Prop) (k : Nat) : ∀ n, (bs P n).testBit k = true ↔ k < n ∧ P k
  | 0 => by simp [bs]
  | n + 1 => by
    rw [bs, Nat.testBit_or, Bool.or_eq_true, bs_bit P k n]
    by_cases h : P n
    · rw [if_pos h, Nat.testBit_two_pow]
      constructor
      · rintro (⟨a, b⟩ | a)
        · exact ⟨by omega, b⟩
        · have : n = k := by simpa using a
          subst this; exact ⟨by omega, h⟩
      · rintro ⟨a, b⟩
        by_cases e : n = k
        · exact Or.inr (by simpa using e)
        · exact Or.inl ⟨by omega, b⟩
    · rw [if_neg h]
      constructor
      · rintro (⟨a, b⟩ | a)
        · exact ⟨by omega, b⟩
        · simp at a
      · rintro ⟨a, b⟩
        by_cases e : n = k
        · subst e; exact absurd b h
        · exact Or.inl ⟨by omega, b⟩
theorem bs_t {P : Nat → Prop} {n : Nat} (h : P n) : bs P (n + 1) = bs P n ||| 2 ^ n := by rw [bs, if_pos h]
theorem bs_f {P : Nat → Prop} {n : Nat} (h : ¬ P n) : bs P (n + 1) = bs P n := by rw [bs, if_neg h, Nat.or_zero]
theorem bs_eq {P Q : Nat → Prop} : ∀ n, (∀ k, k < n → (P k ↔ Q k)) → bs P n = bs Q n
  | 0, _ => rfl
  | n + 1, h => by
    have := bs_eq n (fun k hk => h k (by omega))
    by_cases q : P n
    · rw [bs_t q, bs_t ((h n (by omega)).mp q), this]
    · rw [bs_f q, bs_f (fun z => q ((h n (by omega)).mpr z)), this]
theorem bs_of {P : Nat → Prop} {n z : Nat} (hz : z < 2 ^ n) (h : ∀ k, k < n → (z.testBit k = true ↔ P k)) : z = bs P n := by
  apply Nat.eq_of_testBit_eq
  intro k
  rw [Bool.eq_iff_iff, bs_bit]
  by_cases hk : k < n
  · rw [h k hk]; exact ⟨fun q => ⟨hk, q⟩, fun q => q.2⟩
  · rw [Nat.testBit_lt_two_pow (Nat.lt_of_lt_of_le hz (Nat.pow_le_pow_right (by omega) (by omega)))]
    exact ⟨fun q => by simp at q, fun q => absurd q.1 hk⟩
theorem b_bit {a k : Int} (ha : 0 ≤ a ∧ a ≤ 2147483647) (hk : 0 ≤ k ∧ k ≤ 31) : (Int32.ofInt a >>> (Int32.ofInt k &&& 31)) &&& Int32.ofInt 1 = Int32.ofInt (bi (a.toNat.testBit k.toNat = true)) := by
  have h : a.toNat / 2 ^ k.toNat ≤ a.toNat := Nat.div_le_self _ _
  have e : a.toNat.testBit k.toNat = true ↔ a.toNat / 2 ^ k.toNat % 2 = 1 := by rw [Nat.testBit_eq_decide_div_mod_eq, decide_eq_true_eq]
  rw [b_shr ha hk, bi_c e]
  generalize a.toNat / 2 ^ k.toNat = z at h ⊢
  rw [b_and (by omega) (by omega)]
  congr 1
  rw [Int.toNat_natCast, show (1 : Int).toNat = 1 from rfl, Nat.and_one_is_mod]
  by_cases q : z % 2 = 1
  · rw [bi_t q]; omega
  · rw [bi_f q]; omega
theorem and_pow {a t : Nat} : (a &&& 2 ^ t) = 0 ↔ ¬ a.testBit t = true := by
  constructor
  · intro h q
    have := congrArg (fun z => z.testBit t) h
    simp [Nat.testBit_and, q, Nat.testBit_two_pow] at this
  · intro h
    apply Nat.eq_of_testBit_eq
    intro j
    rw [Nat.testBit_and, Nat.testBit_two_pow]
    by_cases e : t = j
    · subst e; simp [h]
    · simp [e]
