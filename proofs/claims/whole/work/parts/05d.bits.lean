/-! SETS AS BITS -/
theorem nI_or (a b : Nat) : nI a ||| nI b = nI (a ||| b) := by
  apply Int32.toBitVec_inj.mp
  rw [Int32.toBitVec_or]
  show BitVec.ofNat 32 a ||| BitVec.ofNat 32 b = BitVec.ofNat 32 (a ||| b)
  apply BitVec.eq_of_getLsbD_eq
  intro i hi
  simp [BitVec.getLsbD_or, BitVec.getLsbD_ofNat, hi]
theorem nI_and (a b : Nat) : nI a &&& nI b = nI (a &&& b) := by
  apply Int32.toBitVec_inj.mp
  rw [Int32.toBitVec_and]
  show BitVec.ofNat 32 a &&& BitVec.ofNat 32 b = BitVec.ofNat 32 (a &&& b)
  apply BitVec.eq_of_getLsbD_eq
  intro i hi
  simp [BitVec.getLsbD_and, BitVec.getLsbD_ofNat, hi]
theorem nI_xor (a b : Nat) : nI a ^^^ nI b = nI (a ^^^ b) := by
  apply Int32.toBitVec_inj.mp
  rw [Int32.toBitVec_xor]
  show BitVec.ofNat 32 a ^^^ BitVec.ofNat 32 b = BitVec.ofNat 32 (a ^^^ b)
  apply BitVec.eq_of_getLsbD_eq
  intro i hi
  simp [BitVec.getLsbD_xor, BitVec.getLsbD_ofNat, hi]
theorem s31 : ∀ n, n < 32 → ((nI n &&& 31).toBitVec.smod 32).toNat = n := by decide +kernel
theorem nI_shl {a k : Nat} (hk : k < 31) (h : a * 2 ^ k < 2 ^ 32) : nI a <<< (nI k &&& 31) = nI (a * 2 ^ k) := pk_shlN _ k (s31 k (by omega)) h
theorem nI_1shl {k : Nat} (hk : k < 31) : nI 1 <<< (nI k &&& 31) = nI (2 ^ k) := by
  rw [nI_shl hk (by rw [Nat.one_mul]; exact Nat.pow_lt_pow_right (by decide) (by omega)), Nat.one_mul]
theorem nI_shr {a k : Nat} (ha : a < 2 ^ 31) (hk : k < 31) : nI a >>> (nI k &&& 31) = nI (a / 2 ^ k) := pk_shrN ha _ k (s31 k (by omega))
theorem or_zero (x : Int32) : x ||| nI 0 = x := by
  apply Int32.toBitVec_inj.mp
  rw [Int32.toBitVec_or]
  show x.toBitVec ||| 0#32 = x.toBitVec
  simp
theorem nat_or_pow {a i : Nat} (h : a < 2 ^ i) : a ||| 2 ^ i = a + 2 ^ i := by
  have := Nat.two_pow_add_eq_or_of_lt h 1
  rw [Nat.mul_one] at this
  rw [Nat.or_comm, ← this, Nat.add_comm]
/-- the set of the i below n with P i, as a natural -/
def bN (P : Nat → Bool) : Nat → Nat
  | 0 => 0
  | i + 1 => if P i then bN P i + 2 ^ i else bN P i
theorem bN_lt (P : Nat → Bool) : ∀ n, bN P n < 2 ^ n
  | 0 => Nat.zero_lt_one
  | n + 1 => by
    have := bN_lt P n
    rw [bN, Nat.pow_succ]
    split <;> omega
theorem bN_bit (P : Nat → Bool) : ∀ n i, i < n → bN P n / 2 ^ i % 2 = if P i then 1 else 0
  | 0, i, h => absurd h (by omega)
  | n + 1, i, h => by
    have hl := bN_lt P n
    rw [bN]
    by_cases e : i = n
    · subst e
      split
      · rw [Nat.add_div_right _ (Nat.two_pow_pos i), Nat.div_eq_of_lt hl]
      · rw [Nat.div_eq_of_lt hl]
    · have ih := bN_bit P n i (by omega)
      split
      · rw [← ih, show (2 : Nat) ^ n = 2 ^ i * (2 * 2 ^ (n - i - 1)) by
          rw [← Nat.pow_succ', ← Nat.pow_add]; congr 1; omega]
        rw [Nat.add_mul_div_left _ _ (Nat.two_pow_pos i)]
        omega
      · exact ih
theorem bN_step {P : Nat → Bool} {n : Nat} (hn : n < 31) (h : P n = true) : nI (bN P n) ||| (nI 1 <<< (nI n &&& 31)) = nI (bN P (n + 1)) := by
  rw [nI_1shl hn, nI_or, nat_or_pow (bN_lt P n), bN, h]
  rfl
theorem bN_skip {P : Nat → Bool} {n : Nat} (h : P n = false) : bN P (n + 1) = bN P n := by
  rw [bN, h]; rfl
theorem bN_cong {P P' : Nat → Bool} : ∀ n, (∀ i, i < n → P i = P' i) → bN P n = bN P' n
  | 0, _ => rfl
  | n + 1, h => by rw [bN, bN, h n (by omega), bN_cong n (fun i hi => h i (by omega))]
theorem bN_get {P : Nat → Bool} {n i : Nat} (hi : i < n) (hn : n ≤ 30) : (nI (bN P n) >>> (nI i &&& 31)) &&& nI 1 = if P i then nI 1 else 0 := by
  have hl := bN_lt P n
  have h2 : 2 ^ n ≤ 2 ^ 30 := Nat.pow_le_pow_right (by decide) hn
  rw [nI_shr (by omega) (by omega), pk_andN (by
    have : bN P n / 2 ^ i ≤ bN P n := Nat.div_le_self _ _
    omega) 1 (by decide), Nat.pow_one, bN_bit P n i hi]
  split <;> rfl
