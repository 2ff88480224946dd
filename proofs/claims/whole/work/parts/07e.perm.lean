/-! ORDERS -/
def sw (π : Nat → Nat) (a b : Nat) : Nat → Nat := fun j => if j = b then π a else if j = a then π b else π j
def riseN (π : Nat → Nat) : Nat → Nat
  | 0 => 0
  | r + 1 => if π (r + 1) < π r then riseN π r else r + 1
def otherN (π : Nat → Nat) (k : Nat) : Nat → Nat
  | 0 => 0
  | o + 1 => if k < o + 1 ∧ π (o + 1) < π k then otherN π k o else o + 1
def revN : Nat → (Nat → Nat) → Nat → Nat → Nat → Nat
  | 0, π, _, _ => π
  | k + 1, π, a, b => if a < b then revN k (sw π a b) (a + 1) (b - 1) else π
def nxF (mb : Nat) (π : Nat → Nat) : Nat → Nat := revN 6 (sw π (riseN π (mb - 1) - 1) (otherN π (riseN π (mb - 1) - 1) (mb - 1))) (riseN π (mb - 1)) (mb - 1)
def isP (mb : Nat) (g : Nat → Int32) (π : Nat → Nat) : Prop := ∀ j, j < mb → g j = nI (π j) ∧ π j < mb
theorem riseN_le (π : Nat → Nat) : ∀ n, riseN π n ≤ n
  | 0 => Nat.le_refl _
  | n + 1 => by
    rw [riseN]
    have := riseN_le π n
    split <;> omega
theorem otherN_le (π : Nat → Nat) (k : Nat) : ∀ n, otherN π k n ≤ n
  | 0 => Nat.le_refl _
  | n + 1 => by
    rw [otherN]
    have := otherN_le π k n
    split <;> omega
theorem otherN_ge (π : Nat → Nat) (k : Nat) : ∀ n, k ≤ n → k ≤ otherN π k n
  | 0, h => h
  | n + 1, h => by
    rw [otherN]
    split
    · rename_i c
      exact otherN_ge π k n (by omega)
    · exact h
theorem isP.sw {mb : Nat} {g : Nat → Int32} {π : Nat → Nat} (h : isP mb g π) {a b : Nat} (ha : a < mb) (hb : b < mb) : isP mb (upd (upd g a (g b)) b (g a)) (sw π a b) := by
  intro j hj
  show (if j = b then g a else if j = a then g b else g j) = nI (if j = b then π a else if j = a then π b else π j) ∧ (if j = b then π a else if j = a then π b else π j) < mb
  by_cases h1 : j = b
  · rw [if_pos h1, if_pos h1]; exact h a ha
  · rw [if_neg h1, if_neg h1]
    by_cases h2 : j = a
    · rw [if_pos h2, if_pos h2]; exact h b hb
    · rw [if_neg h2, if_neg h2]; exact h j hj
