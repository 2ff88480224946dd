/-! CLASS AND REFERENCE, one track beside one row: Sim; what keeps it -/
def bs : Nat → Nat
  | 6 => 55
  | 7 => 61
  | 8 => 49
  | 10 => 1
  | 11 => 9
  | 12 => 17
  | 13 => 25
  | 14 => 33
  | 15 => 41
  | _ => 70
def bsM (c : Nat) : Bool := c == 6 || c == 7 || c == 8
def bsP (c : Nat) : Bool := c == 10 || c == 11 || c == 12 || c == 13 || c == 14 || c == 15
/-- all but the tick -/
def Sim0 (mb pn : Nat) (T : xT) (o so f : Nat → Int32) : Prop :=
  T 0 0 = o 7 ∧ T 0 2 = nI mb ∧ o 8 = nI mb ∧ T 0 3 = nI pn ∧ o 9 = nI pn ∧ T 0 4 = o 11 ∧ (∀ p, p < pn → T 9 p = so p) ∧ (∀ c, bsM c = true → ∀ j, j < mb → T c j = f (bs c + j)) ∧ ∀ c, bsP c = true → ∀ p, p < pn → T c p = f (bs c + p)
def Sim (mb pn : Nat) (T : xT) (o so f : Nat → Int32) : Prop := Sim0 mb pn T o so f ∧ T 0 1 = f 0
theorem bsM_cases {c : Nat} (h : bsM c = true) : c = 6 ∨ c = 7 ∨ c = 8 := by
  simp only [bsM, Bool.or_eq_true, beq_iff_eq] at h; omega
theorem bsP_cases {c : Nat} (h : bsP c = true) : c = 10 ∨ c = 11 ∨ c = 12 ∨ c = 13 ∨ c = 14 ∨ c = 15 := by
  simp only [bsP, Bool.or_eq_true, beq_iff_eq] at h; omega
theorem bs_apart {c c' j k mb pn : Nat} (hm : mb ≤ 6) (hp : pn ≤ 8) (h : (bsM c = true ∧ j < mb) ∨ (bsP c = true ∧ j < pn)) (h' : (bsM c' = true ∧ k < mb) ∨ (bsP c' = true ∧ k < pn)) (e : bs c + j = bs c' + k) : c = c' ∧ j = k := by
  rcases h with ⟨h, hj⟩ | ⟨h, hj⟩ <;> rcases h' with ⟨h', hk⟩ | ⟨h', hk⟩
  · rcases bsM_cases h with rfl | rfl | rfl <;> rcases bsM_cases h' with rfl | rfl | rfl <;> simp only [bs] at e <;> omega
  · rcases bsM_cases h with rfl | rfl | rfl <;> rcases bsP_cases h' with rfl | rfl | rfl | rfl | rfl | rfl <;> simp only [bs] at e <;> omega
  · rcases bsP_cases h with rfl | rfl | rfl | rfl | rfl | rfl <;> rcases bsM_cases h' with rfl | rfl | rfl <;> simp only [bs] at e <;> omega
  · rcases bsP_cases h with rfl | rfl | rfl | rfl | rfl | rfl <;> rcases bsP_cases h' with rfl | rfl | rfl | rfl | rfl | rfl <;> simp only [bs] at e <;> omega
theorem bs_pos {c : Nat} (h : bsM c = true ∨ bsP c = true) : c ≠ 0 ∧ c ≠ 9 ∧ 1 ≤ bs c := by
  rcases h with h | h
  · rcases bsM_cases h with rfl | rfl | rfl <;> simp [bs]
  · rcases bsP_cases h with rfl | rfl | rfl | rfl | rfl | rfl <;> simp [bs]
theorem upd_eq (f : Nat → Int32) (k : Nat) (x : Int32) : upd f k x k = x := if_pos rfl
theorem upd_no (f : Nat → Int32) {k j : Nat} (x : Int32) (h : j ≠ k) : upd f k x j = f j := if_neg h
/-- a write of one place, on both sides -/
theorem Sim0.put {mb pn : Nat} {T : xT} {o so f : Nat → Int32} (h : Sim0 mb pn T o so f) (hm : mb ≤ 6) (hp : pn ≤ 8) {c k : Nat} (hc : (bsM c = true ∧ k < mb) ∨ (bsP c = true ∧ k < pn)) (v : Int32) : Sim0 mb pn (va_up T c (upd (T c) k v)) o so (upd f (bs c + k) v) := by
  have hcp := bs_pos (c := c) (hc.imp And.left And.left)
  obtain ⟨a1, a2, a3, a4, a5, a6, a7, a8, a9⟩ := h
  have e0 : va_up T c (upd (T c) k v) 0 = T 0 := va_up_no _ _ hcp.1.symm
  have e9 : va_up T c (upd (T c) k v) 9 = T 9 := va_up_no _ _ hcp.2.1.symm
  have key : ∀ c' j, ((bsM c' = true ∧ j < mb) ∨ (bsP c' = true ∧ j < pn)) → T c' j = f (bs c' + j) → va_up T c (upd (T c) k v) c' j = upd f (bs c + k) v (bs c' + j) := by
    intro c' j h' e
    by_cases he : bs c' + j = bs c + k
    · obtain ⟨rfl, rfl⟩ := bs_apart hm hp h' hc he
      rw [va_up_eq, upd_eq, upd_eq]
    · rw [upd_no _ _ he]
      by_cases hcc : c' = c
      · subst hcc
        rw [va_up_eq, upd_no _ _ (fun q => he (by rw [q]))]
        exact e
      · rw [va_up_no _ _ hcc]
        exact e
  refine ⟨by rw [e0]; exact a1, by rw [e0]; exact a2, a3, by rw [e0]; exact a4, a5, by rw [e0]; exact a6, fun p hp => by rw [e9]; exact a7 p hp, ?_, ?_⟩
  · intro c' h' j hj
    exact key c' j (Or.inl ⟨h', hj⟩) (a8 c' h' j hj)
  · intro c' h' j hj
    exact key c' j (Or.inr ⟨h', hj⟩) (a9 c' h' j hj)
theorem Sim.put {mb pn : Nat} {T : xT} {o so f : Nat → Int32} (h : Sim mb pn T o so f) (hm : mb ≤ 6) (hp : pn ≤ 8) {c k : Nat} (hc : (bsM c = true ∧ k < mb) ∨ (bsP c = true ∧ k < pn)) (v : Int32) : Sim mb pn (va_up T c (upd (T c) k v)) o so (upd f (bs c + k) v) := by
  have hcp := bs_pos (c := c) (hc.imp And.left And.left)
  refine ⟨h.1.put hm hp hc v, ?_⟩
  rw [va_up_no _ _ hcp.1.symm, upd_no _ _ (by omega)]
  exact h.2
theorem Sim0.m {mb pn : Nat} {T : xT} {o so f : Nat → Int32} (h : Sim0 mb pn T o so f) {c j : Nat} (hc : bsM c = true) (hj : j < mb) : T c j = f (bs c + j) := h.2.2.2.2.2.2.2.1 c hc j hj
theorem Sim0.p {mb pn : Nat} {T : xT} {o so f : Nat → Int32} (h : Sim0 mb pn T o so f) {c j : Nat} (hc : bsP c = true) (hj : j < pn) : T c j = f (bs c + j) := h.2.2.2.2.2.2.2.2 c hc j hj
/-- a track as it may stand -/
def tOK (mb pn : Nat) (T : xT) : Prop :=
  mb ≤ 6 ∧ 1 ≤ pn ∧ pn ≤ 8 ∧ T 0 2 = nI mb ∧ T 0 3 = nI pn ∧
  (∀ j, j < mb → ∃ q, T 8 j = nI q ∧ (q < pn ∨ q = 8 ∨ q = 9 ∨ q = 10 ∨ (20 ≤ q ∧ q < 20 + pn))) ∧
  (∀ p, p < pn → T 13 p = -1000000 ∨ ∃ m, m < mb ∧ T 13 p = nI m ∧ T 8 m = nI (20 + p)) ∧
  (∀ p, p < pn → ∃ q, T 11 p = nI q ∧ p < q ∧ q ≤ 9) ∧ (∀ p, p < pn → ∃ q, T 12 p = nI q ∧ p < q ∧ q ≤ 9) ∧ (∀ p, p < pn → ∃ q, q ≤ 999 ∧ T 14 p = nI q) ∧ ∀ p, p < pn → T 10 p = nI 0 ∨ T 10 p = nI 1
theorem nI_ne_none {m : Nat} (h : m < 2 ^ 31) : ¬ nI m = -1000000 := by
  intro e
  have := nI_toInt h
  rw [e] at this
  have e2 : (-1000000 : Int32).toInt = -1000000 := by decide
  rw [e2] at this
  omega
theorem nI_inj {a b : Nat} (ha : a < 2 ^ 31) (hb : b < 2 ^ 31) (h : nI a = nI b) : a = b := (nI_eq ha hb).mp h
