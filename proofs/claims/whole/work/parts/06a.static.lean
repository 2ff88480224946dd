/-! WHAT STANDS WHERE, once the constructors are through -/
def xReg (Y : xY) (G : xG) (r : Nat) (K : Nat → Option (Nat × Nat)) (J : Nat → Option (Nat × Nat)) : Prop := (∀ c k, K c = some k → ((r, c), k) ∈ Y) ∧ ∀ k q, J k = some q → G r 0 k = some q
def xK0 : Nat → Option (Nat × Nat)
  | 0 => some (0, 6)
  | 8 => some (2, 2)
  | _ => none
def xJ0 : Nat → Option (Nat × Nat)
  | 0 => some (1, 0)
  | 1 => some (2, 0)
  | 2 => some (3, 0)
  | 3 => some (4, 0)
  | 4 => some (5, 0)
  | 5 => some (30, 0)
  | 6 => some (32, 0)
  | 7 => some (0, 8)
  | _ => none
def xK1 : Nat → Option (Nat × Nat)
  | 0 => some (0, 2)
  | 1 => some (3, 8)
  | 2 => some (1, 8)
  | 3 => some (1, 8)
  | _ => none
def xJ1 : Nat → Option (Nat × Nat)
  | 0 => some (1, 1)
  | 1 => some (1, 2)
  | 2 => some (1, 3)
  | _ => none
def xK2 : Nat → Option (Nat × Nat)
  | 0 => some (0, 4)
  | 1 => some (1, 110)
  | _ => none
def xJ2 : Nat → Option (Nat × Nat)
  | 0 => some (2, 1)
  | _ => none
def xK5 : Nat → Option (Nat × Nat)
  | 0 => some (0, 0)
  | 1 => some (2, 24)
  | _ => none
def xJ5 : Nat → Option (Nat × Nat)
  | 0 => some (5, 1)
  | _ => none
def xK30 : Nat → Option (Nat × Nat)
  | 0 => some (0, 3)
  | 2 => some (1, 256)
  | 3 => some (1, 256)
  | 4 => some (1, 6)
  | 5 => some (1, 6)
  | 6 => some (1, 4096)
  | _ => none
def xJ30 : Nat → Option (Nat × Nat)
  | 0 => some (31, 0)
  | 1 => some (30, 2)
  | 2 => some (30, 3)
  | 3 => some (30, 4)
  | 4 => some (30, 5)
  | 5 => some (30, 6)
  | _ => none
def xK32 : Nat → Option (Nat × Nat)
  | 0 => some (0, 1)
  | 1 => some (1, 16)
  | _ => none
def xJ32 : Nat → Option (Nat × Nat)
  | 0 => some (32, 1)
  | _ => none
def isTr (r : Nat) : Bool := r == 3 || r == 4 || (decide (6 ≤ r) && decide (r < 30)) || r == 31 || r == 33 || r == 34
def xSt (Y : xY) (G : xG) : Prop := xReg Y G 0 xK0 xJ0 ∧ xReg Y G 1 xK1 xJ1 ∧ xReg Y G 2 xK2 xJ2 ∧ xReg Y G 5 xK5 xJ5 ∧ xReg Y G 30 xK30 xJ30 ∧ xReg Y G 32 xK32 xJ32 ∧ (∀ r, isTr r = true → xTr Y G r) ∧ xMo Y G ∧
  (∀ i, i < 8 → G 1 1 i = some (1, 10 + i) ∧ ((1, 10 + i), (1, 40)) ∈ Y) ∧ (∀ i, i < 24 → G 5 1 i = some (6 + i, 0)) ∧ (∀ i, i < 2 → G 0 8 i = some (33 + i, 0))
theorem xSt.r0 {Y : xY} {G : xG} (h : xSt Y G) : xReg Y G 0 xK0 xJ0 := h.1
theorem xSt.r1 {Y : xY} {G : xG} (h : xSt Y G) : xReg Y G 1 xK1 xJ1 := h.2.1
theorem xSt.r2 {Y : xY} {G : xG} (h : xSt Y G) : xReg Y G 2 xK2 xJ2 := h.2.2.1
theorem xSt.r5 {Y : xY} {G : xG} (h : xSt Y G) : xReg Y G 5 xK5 xJ5 := h.2.2.2.1
theorem xSt.r30 {Y : xY} {G : xG} (h : xSt Y G) : xReg Y G 30 xK30 xJ30 := h.2.2.2.2.1
theorem xSt.r32 {Y : xY} {G : xG} (h : xSt Y G) : xReg Y G 32 xK32 xJ32 := h.2.2.2.2.2.1
theorem xSt.tr {Y : xY} {G : xG} (h : xSt Y G) (r : Nat) (hr : isTr r = true) : xTr Y G r := h.2.2.2.2.2.2.1 r hr
theorem xSt.mo {Y : xY} {G : xG} (h : xSt Y G) : xMo Y G := h.2.2.2.2.2.2.2.1
theorem xSt.it {Y : xY} {G : xG} (h : xSt Y G) {i : Nat} (hi : i < 8) : G 1 1 i = some (1, 10 + i) := (h.2.2.2.2.2.2.2.2.1 i hi).1
theorem xSt.iy {Y : xY} {G : xG} (h : xSt Y G) {i : Nat} (hi : i < 8) : ((1, 10 + i), (1, 40)) ∈ Y := (h.2.2.2.2.2.2.2.2.1 i hi).2
theorem xSt.ac {Y : xY} {G : xG} (h : xSt Y G) {i : Nat} (hi : i < 24) : G 5 1 i = some (6 + i, 0) := h.2.2.2.2.2.2.2.2.2.1 i hi
theorem xSt.im {Y : xY} {G : xG} (h : xSt Y G) {i : Nat} (hi : i < 2) : G 0 8 i = some (33 + i, 0) := h.2.2.2.2.2.2.2.2.2.2 i hi
theorem xSt.at {Y : xY} {G : xG} (h : xSt Y G) {i : Nat} (hi : i < 24) : xTr Y G (6 + i) := h.tr _ (by
  unfold isTr
  simp only [Bool.or_eq_true, beq_iff_eq, Bool.and_eq_true, decide_eq_true_eq]
  omega)
