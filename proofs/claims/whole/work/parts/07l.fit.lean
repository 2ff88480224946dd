/-! WHAT FITS, what jams, what is drawn -/
/-- whether the trays are as the row tells, tick by tick -/
def cFit (mb : Nat) (g : Nat → Int32) : Nat → Nat → xT → Bool
  | 0, _, _ => true
  | k + 1, j, T => if g j = jBC (tBits (tPass T mb) (nI 8) (nI 8) mb) + nI 10 * jBC (tBits (tPass T mb) (nI 9) (nI 9) mb) then cFit mb g k (j + 1) (tPass T mb) else false
def fitS (p : Nat → Bool) (lo : Nat) : Nat → Int32
  | 0 => nI 0
  | i + 1 => fitS p lo i ||| (if p (lo + i) = true then nI 1 <<< (nI (lo + i) &&& 31) else nI 0)
def tPut (T : xT) (c k : Nat) (v : Int32) : xT := va_up T c (upd (T c) k v)
theorem tOK.bar {mb pn : Nat} {T : xT} (h : tOK mb pn T) {k : Nat} (h2 : k ≠ 2) (h3 : k ≠ 3) (v : Int32) : tOK mb pn (tPut T 0 k v) := by
  obtain ⟨a1, a2, a3, a4, a5, a6, a7, a8, a9, a10, a11⟩ := h
  refine ⟨a1, a2, a3, ?_, ?_, a6, a7, a8, a9, a10, a11⟩
  · show va_up T 0 _ 0 2 = _
    rw [va_up_eq, upd_no _ _ h2.symm]; exact a4
  · show va_up T 0 _ 0 3 = _
    rw [va_up_eq, upd_no _ _ h3.symm]; exact a5
theorem tOK.c6 {mb pn : Nat} {T : xT} (h : tOK mb pn T) (k : Nat) (v : Int32) : tOK mb pn (tPut T 6 k v) := h.off _ (by decide) (by decide) (by decide) (by decide) (by decide) (by decide) (by decide)
theorem tOK.c9 {mb pn : Nat} {T : xT} (h : tOK mb pn T) (k : Nat) (v : Int32) : tOK mb pn (tPut T 9 k v) := h.off _ (by decide) (by decide) (by decide) (by decide) (by decide) (by decide) (by decide)
theorem tOK.c10 {mb pn : Nat} {T : xT} (h : tOK mb pn T) {k : Nat} {v : Nat} (hv : v ≤ 1) : tOK mb pn (tPut T 10 k (nI v)) := h.point (by
  obtain rfl | rfl : v = 0 ∨ v = 1 := by omega
  · exact Or.inl rfl
  · exact Or.inr rfl)
/-- in how many of all the cases -/
def jamN (cs : Nat → Nat) (pv : Nat → Bool) : Nat → Nat
  | 0 => 0
  | i + 1 => jamN cs pv i + (if pv i = true then cs i else 0)
theorem bcP : ∀ pn, pn < 9 → ∀ i, i < 2 ^ pn → bcN i ≤ pn := by decide +kernel
theorem csB {p b c : Nat} (hp : p ≤ 10) : p ^ b * (10 - p) ^ c ≤ 10 ^ (b + c) := by
  rw [Nat.pow_add]
  exact Nat.mul_le_mul (Nat.pow_le_pow_left hp b) (Nat.pow_le_pow_left (by omega) c)
def tDist (T : xT) (mb pn x : Nat) : xT := if tInTray T (x % mb) then tThrow T (x % mb) (nI (x % 9 + 1)) else if x % 3 = 0 then tSwing T (x % pn) else T
def tDraw (mb pn : Nat) (tr : Int32) : Nat → Nat → xT → Int32 → Int32
  | 0, _, _, a => a
  | k + 1, x, T, a => tDraw mb pn tr k (x * 16807 % 2147483647) (tPass (tDist T mb pn (x * 16807 % 2147483647)) mb) (a + jBC (tBits (tPass (tDist T mb pn (x * 16807 % 2147483647)) mb) tr tr mb &&& (tBits (tDist T mb pn (x * 16807 % 2147483647)) tr tr mb ^^^ (-1))))
theorem tOK.throw {mb pn : Nat} {T : xT} (h : tOK mb pn T) {m : Nat} (hm : m < mb) (ht : tInTray T m) (w : Int32) : tOK mb pn (tThrow T m w) := by
  have hf : ∀ p, p < pn → ¬ T 13 p = nI m := by
    rcases ht with e | e
    · exact h.free hm e (by decide)
    · exact h.free hm e (by decide)
  unfold tThrow
  exact ((h.place (m := m) (z := 10) (by unfold okq; omega) hf).off _ (by decide) (by decide) (by decide) (by decide) (by decide) (by decide) (by decide)).off _ (by decide) (by decide) (by decide) (by decide) (by decide) (by decide) (by decide)
theorem tOK.dist {mb pn : Nat} {T : xT} (h : tOK mb pn T) (hm : 1 ≤ mb) (x : Nat) : tOK mb pn (tDist T mb pn x) := by
  unfold tDist
  have hp := h.2.1
  split
  · exact h.throw (Nat.mod_lt _ (by omega)) ‹_› _
  · split
    · exact h.swing (Nat.mod_lt _ (by omega))
    · exact h
