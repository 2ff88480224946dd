/-! HOW MANY BITS, and turns -/
def bcN (s : Nat) : Nat := s % 2 + s / 2 % 2 + s / 4 % 2 + s / 8 % 2 + s / 16 % 2 + s / 32 % 2 + s / 64 % 2 + s / 128 % 2
theorem bcJ : ∀ s, s < 256 → jBC (nI s) = nI (bcN s) := by decide +kernel
theorem bcR : ∀ s, s < 256 → rBits (nI s) 8 = nI (bcN s) := by decide +kernel
theorem bcX : ∀ s, s < 256 → ∀ p, p < 8 → bcN (s ^^^ 2 ^ p) ≤ bcN s + 1 := by decide +kernel
theorem bcL (s : Nat) : bcN s ≤ 8 := by
  have h : ∀ n, n % 2 ≤ 1 := fun n => Nat.le_of_lt_succ (Nat.mod_lt n (by decide))
  show _ ≤ 1 + 1 + 1 + 1 + 1 + 1 + 1 + 1
  exact Nat.add_le_add (Nat.add_le_add (Nat.add_le_add (Nat.add_le_add (Nat.add_le_add (Nat.add_le_add (Nat.add_le_add (h _) (h _)) (h _)) (h _)) (h _)) (h _)) (h _)) (h _)
theorem bit_and (s q i : Nat) : (s &&& q) / 2 ^ i % 2 ≤ s / 2 ^ i % 2 := by
  have h := Nat.testBit_and s q i
  simp only [Nat.testBit_eq_decide_div_mod_eq] at h
  by_cases h1 : s / 2 ^ i % 2 = 1
  · omega
  · rw [decide_eq_false h1, Bool.false_and] at h
    have := of_decide_eq_false h
    omega
theorem bcD (s q : Nat) : bcN (s &&& q) ≤ bcN s := by
  have b0 := bit_and s q 0
  rw [Nat.pow_zero, Nat.div_one, Nat.div_one] at b0
  exact Nat.add_le_add (Nat.add_le_add (Nat.add_le_add (Nat.add_le_add (Nat.add_le_add (Nat.add_le_add (Nat.add_le_add b0 (bit_and s q 1)) (bit_and s q 2)) (bit_and s q 3)) (bit_and s q 4)) (bit_and s q 5)) (bit_and s q 6)) (bit_and s q 7)
theorem and_not_eq (x y : Int32) : x &&& (y ^^^ (-1)) = 0 ↔ x &&& y = x := by
  rw [← Int32.toBitVec_inj, ← Int32.toBitVec_inj, Int32.toBitVec_and, Int32.toBitVec_and, Int32.toBitVec_xor, show (-1 : Int32).toBitVec = BitVec.allOnes 32 by decide, show (0 : Int32).toBitVec = 0#32 by decide]
  constructor
  · intro h
    apply BitVec.eq_of_getLsbD_eq
    intro i hi
    have := congrArg (fun z => z.getLsbD i) h
    simp only [BitVec.getLsbD_and, BitVec.getLsbD_xor, BitVec.getLsbD_allOnes, hi, decide_true, Bool.xor_true, BitVec.getLsbD_zero] at this ⊢
    revert this
    cases x.toBitVec.getLsbD i <;> cases y.toBitVec.getLsbD i <;> decide
  · intro h
    apply BitVec.eq_of_getLsbD_eq
    intro i hi
    have := congrArg (fun z => z.getLsbD i) h
    simp only [BitVec.getLsbD_and, BitVec.getLsbD_xor, BitVec.getLsbD_allOnes, hi, decide_true, Bool.xor_true, BitVec.getLsbD_zero] at this ⊢
    revert this
    cases x.toBitVec.getLsbD i <;> cases y.toBitVec.getLsbD i <;> decide
theorem and_not {s q : Nat} (hs : s < 256) (hq : q < 256) : nI s &&& (nI q ^^^ (-1)) = 0 ↔ s &&& q = s := by
  rw [and_not_eq, nI_and]
  exact nI_eq (Nat.lt_of_le_of_lt Nat.and_le_left (by omega)) (by omega)
/-- what the one whose turn it is makes of it -/
def chF (g : Bool) (U : Nat → Int32) (s : Nat) : Nat → Int32
  | 0 => U s
  | p + 1 => if g = true then (if chF g U s p < U (s ^^^ 2 ^ p) then U (s ^^^ 2 ^ p) else chF g U s p) else (if U (s ^^^ 2 ^ p) < chF g U s p then U (s ^^^ 2 ^ p) else chF g U s p)
def tU (pn : Nat) (W : Nat → Int32) (n : Nat) : Nat → Nat → Int32
  | 0 => W
  | j + 1 => fun s => chF ((n - 1 - j) % 2 == 0) (tU pn W n j) s pn
