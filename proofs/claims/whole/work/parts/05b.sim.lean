/-! LEAVE, on both sides -/
theorem upd_swap (f : Nat → Int32) {a b : Nat} (h : a ≠ b) (x y : Int32) : upd (upd f a x) b y = upd (upd f b y) a x := by
  funext j
  unfold upd
  by_cases h1 : j = b
  · rw [if_pos h1, if_neg (fun e => h (e.symm.trans h1)), if_pos h1]
  · by_cases h2 : j = a
    · rw [if_neg h1, if_pos h2, if_pos h2]
    · rw [if_neg h1, if_neg h2, if_neg h2, if_neg h1]
theorem upd_self (f : Nat → Int32) (k : Nat) : upd f k (f k) = f := by
  funext j
  unfold upd
  by_cases h : j = k
  · rw [if_pos h, h]
  · rw [if_neg h]
theorem and1 (x : Int32) : x &&& nI 1 = 0 ∨ x &&& nI 1 = nI 1 := by
  obtain ⟨j, hj, e⟩ := pk_andE x (m := nI 1) 1 (by decide)
  rcases (show j = 0 ∨ j = 1 by omega) with rfl | rfl
  · exact Or.inl e
  · exact Or.inr e
theorem n10 : ¬ (nI 1 : Int32) = 0 := by decide
theorem tTo_eq {T : xT} {o : Nat → Int32} {pn : Nat} (h1 : T 0 3 = nI pn) (h2 : o 9 = nI pn) (hp : pn ≤ 8) (to : Int32) : tTo T to = rTo o to := by
  unfold tTo rTo
  rw [h1, h2]
  by_cases h : to < nI pn
  · rw [if_pos h]
    by_cases h8 : nI 8 ≤ to
    · rw [if_pos h8]
    · rw [if_neg h8, if_pos h]
  · rw [if_neg h, if_neg h]
/-- where one may be -/
def okq (pn q : Nat) : Prop := q < pn ∨ q = 8 ∨ q = 9 ∨ q = 10 ∨ (20 ≤ q ∧ q < 20 + pn)
theorem rTo_ok {o : Nat → Int32} {pn q : Nat} (h : o 9 = nI pn) (hp : pn ≤ 8) (hq : q ≤ 9) : ∃ z, rTo o (nI q) = nI z ∧ okq pn z ∧ z < 10 := by
  unfold rTo
  rw [h]
  by_cases h8 : nI 8 ≤ nI q
  · rw [if_pos h8]
    have := (nI_leI (by decide) (by omega)).mp h8
    exact ⟨q, rfl, by unfold okq; omega, by omega⟩
  · rw [if_neg h8]
    by_cases h9 : nI q < nI pn
    · rw [if_pos h9]
      have := (nI_ltI (by omega) (by omega)).mp h9
      exact ⟨q, rfl, Or.inl this, by omega⟩
    · rw [if_neg h9]
      exact ⟨8, rfl, by unfold okq; omega, by omega⟩
theorem tSend_in {T : xT} {mb m : Nat} (h : T 0 2 = nI mb) (hm : m < mb) (hb : mb ≤ 6) (to : Int32) : tSend T (nI m) to = va_up T 8 (upd (T 8) m (tTo T to)) := by
  unfold tSend
  rw [if_neg (nI_pos (by omega)), h, if_neg (nI_ge hm (by omega)), nI_clamp (by omega)]
theorem tOK.mb {mb pn : Nat} {T : xT} (h : tOK mb pn T) : mb ≤ 6 := h.1
theorem tOK.pn {mb pn : Nat} {T : xT} (h : tOK mb pn T) : pn ≤ 8 := h.2.2.1
theorem tOK.e2 {mb pn : Nat} {T : xT} (h : tOK mb pn T) : T 0 2 = nI mb := h.2.2.2.1
theorem tOK.e3 {mb pn : Nat} {T : xT} (h : tOK mb pn T) : T 0 3 = nI pn := h.2.2.2.2.1
theorem tOK.pl {mb pn : Nat} {T : xT} (h : tOK mb pn T) : ∀ j, j < mb → ∃ q, T 8 j = nI q ∧ okq pn q := h.2.2.2.2.2.1
theorem tOK.ho {mb pn : Nat} {T : xT} (h : tOK mb pn T) : ∀ p, p < pn → T 13 p = -1000000 ∨ ∃ m, m < mb ∧ T 13 p = nI m ∧ T 8 m = nI (20 + p) := h.2.2.2.2.2.2.1
theorem tOK.le {mb pn : Nat} {T : xT} (h : tOK mb pn T) : ∀ p, p < pn → ∃ q, T 11 p = nI q ∧ p < q ∧ q ≤ 9 := h.2.2.2.2.2.2.2.1
theorem tOK.ri {mb pn : Nat} {T : xT} (h : tOK mb pn T) : ∀ p, p < pn → ∃ q, T 12 p = nI q ∧ p < q ∧ q ≤ 9 := h.2.2.2.2.2.2.2.2.1
theorem tOK.we {mb pn : Nat} {T : xT} (h : tOK mb pn T) : ∀ p, p < pn → ∃ q, q ≤ 999 ∧ T 14 p = nI q := h.2.2.2.2.2.2.2.2.2.1
theorem tOK.po {mb pn : Nat} {T : xT} (h : tOK mb pn T) : ∀ p, p < pn → T 10 p = nI 0 ∨ T 10 p = nI 1 := h.2.2.2.2.2.2.2.2.2.2
/-- what a write of another cell leaves -/
theorem tOK.off {mb pn : Nat} {T : xT} (h : tOK mb pn T) {c : Nat} (g : Nat → Int32) (h0 : c ≠ 0) (h8 : c ≠ 8) (h10 : c ≠ 10) (h11 : c ≠ 11) (h12 : c ≠ 12) (h13 : c ≠ 13) (h14 : c ≠ 14) : tOK mb pn (va_up T c g) := by
  unfold tOK
  rw [va_up_no _ _ h0.symm, va_up_no _ _ h8.symm, va_up_no _ _ h10.symm, va_up_no _ _ h11.symm, va_up_no _ _ h12.symm, va_up_no _ _ h13.symm, va_up_no _ _ h14.symm]
  exact h
theorem tOK.went {mb pn : Nat} {T : xT} (h : tOK mb pn T) {p q : Nat} (hq : q ≤ 999) : tOK mb pn (va_up T 14 (upd (T 14) p (nI q))) := by
  obtain ⟨a1, a2, a3, a4, a5, a6, a7, a8, a9, a10, a11⟩ := h
  refine ⟨a1, a2, a3, a4, a5, a6, a7, a8, a9, ?_, a11⟩
  intro p' hp'
  rw [va_up_eq]
  by_cases e : p' = p
  · subst e; rw [upd_eq]; exact ⟨q, hq, rfl⟩
  · rw [upd_no _ _ e]; exact a10 p' hp'
theorem tOK.point {mb pn : Nat} {T : xT} (h : tOK mb pn T) {p : Nat} {v : Int32} (hv : v = nI 0 ∨ v = nI 1) : tOK mb pn (va_up T 10 (upd (T 10) p v)) := by
  obtain ⟨a1, a2, a3, a4, a5, a6, a7, a8, a9, a10, a11⟩ := h
  refine ⟨a1, a2, a3, a4, a5, a6, a7, a8, a9, a10, ?_⟩
  intro p' hp'
  rw [va_up_eq]
  by_cases e : p' = p
  · subst e; rw [upd_eq]; exact hv
  · rw [upd_no _ _ e]; exact a11 p' hp'
theorem tOK.swing {mb pn : Nat} {T : xT} (h : tOK mb pn T) {p : Nat} (hp : p < pn) : tOK mb pn (tSwing T p) := by
  refine h.point ?_
  rcases h.po p hp with e | e
  · rw [e]; exact Or.inr (by decide)
  · rw [e]; exact Or.inl (by decide)
theorem tOK.place {mb pn : Nat} {T : xT} (h : tOK mb pn T) {m z : Nat} (hz : okq pn z) (hn : ∀ p, p < pn → ¬ T 13 p = nI m) : tOK mb pn (va_up T 8 (upd (T 8) m (nI z))) := by
  obtain ⟨a1, a2, a3, a4, a5, a6, a7, a8, a9, a10, a11⟩ := h
  refine ⟨a1, a2, a3, a4, a5, ?_, ?_, a8, a9, a10, a11⟩
  · intro j hj
    rw [va_up_eq]
    by_cases e : j = m
    · subst e; rw [upd_eq]; exact ⟨z, rfl, hz⟩
    · rw [upd_no _ _ e]; exact a6 j hj
  · intro p hp
    rw [va_up_no _ _ (by decide), va_up_eq]
    rcases a7 p hp with e | ⟨m', h1, h2, h3⟩
    · exact Or.inl e
    · refine Or.inr ⟨m', h1, h2, ?_⟩
      rw [upd_no _ _ (fun e => hn p hp (by rw [h2, e]))]
      exact h3
theorem tOK.unhold {mb pn : Nat} {T : xT} (h : tOK mb pn T) {p : Nat} : tOK mb pn (va_up T 13 (upd (T 13) p (-1000000))) := by
  obtain ⟨a1, a2, a3, a4, a5, a6, a7, a8, a9, a10, a11⟩ := h
  refine ⟨a1, a2, a3, a4, a5, a6, ?_, a8, a9, a10, a11⟩
  intro p' hp'
  rw [va_up_eq, va_up_no _ _ (by decide)]
  by_cases e : p' = p
  · subst e; rw [upd_eq]; exact Or.inl rfl
  · rw [upd_no _ _ e]; exact a7 p' hp'
theorem tOK.free {mb pn : Nat} {T : xT} (h : tOK mb pn T) {m q : Nat} (hmm : m < mb) (e : T 8 m = nI q) (hq : q < 20) : ∀ p, p < pn → ¬ T 13 p = nI m := by
  intro p hp hm
  have hp8 := h.pn
  have hmb := h.mb
  rcases h.ho p hp with e2 | ⟨m', h1, h2, h3⟩
  · rw [e2] at hm; exact nI_ne_none (by omega) hm.symm
  · rw [h2] at hm
    have := nI_inj (by omega) (by omega) hm
    subst this
    rw [e] at h3
    have := nI_inj (by omega) (by omega) h3
    omega
/-- a marble on its way is sent on: both sides -/
theorem send_sim {mb pn : Nat} {T : xT} {o so f : Nat → Int32} (h : Sim mb pn T o so f) (hk : tOK mb pn T) {m : Nat} (hm : m < mb) {q : Nat} (hq : q ≤ 9) (hn : ∀ p, p < pn → ¬ T 13 p = nI m) : Sim mb pn (tSend T (nI m) (nI q)) o so (upd f (49 + m) (rTo o (nI q))) ∧ tOK mb pn (tSend T (nI m) (nI q)) ∧ (∀ j, j ≠ m → tSend T (nI m) (nI q) 8 j = T 8 j) ∧ ∃ z, z < 10 ∧ tSend T (nI m) (nI q) 8 m = nI z := by
  have e9 : o 9 = nI pn := h.1.2.2.2.2.1
  obtain ⟨z, ez, hz, hz10⟩ := rTo_ok e9 hk.pn hq
  rw [tSend_in hk.e2 hm hk.mb, tTo_eq hk.e3 e9 hk.pn]
  refine ⟨h.put hk.mb hk.pn (c := 8) (Or.inl ⟨rfl, hm⟩) _, by rw [ez]; exact hk.place hz hn, fun j hj => by rw [va_up_eq, upd_no _ _ hj], z, hz10, by rw [va_up_eq, upd_eq, ez]⟩
theorem Sim.swing {mb pn : Nat} {T : xT} {o so f : Nat → Int32} (h : Sim mb pn T o so f) (hk : tOK mb pn T) {p : Nat} (hp : p < pn) : Sim mb pn (tSwing T p) o so (upd f (1 + p) (nI 1 - f (1 + p))) := by
  have e : T 10 p = f (1 + p) := h.1.p (c := 10) rfl hp
  unfold tSwing
  rw [e]
  exact h.put hk.mb hk.pn (c := 10) (Or.inr ⟨rfl, hp⟩) _
theorem cnt_sim {mb pn : Nat} {T : xT} {o so f : Nat → Int32} (h : Sim mb pn T o so f) (hk : tOK mb pn T) {m p : Nat} (hm : m < mb) (hp : p < pn) : Sim mb pn (tCnt T m p) o so (rB (rW f p) m p) ∧ tOK mb pn (tCnt T m p) := by
  have hmb := hk.mb
  have hpn := hk.pn
  have e14 : T 14 p = f (33 + p) := h.1.p (c := 14) rfl hp
  obtain ⟨q, hq, eq⟩ := hk.we p hp
  -- went
  have ew : ∃ z, z ≤ 999 ∧ (if T 14 p + nI 1 < nI 999 then T 14 p + nI 1 else nI 999) = nI z ∧ rW f p = upd f (33 + p) (nI z) := by
    unfold rW
    rw [← e14, eq, nI_add]
    by_cases h9 : q = 999
    · subst h9
      refine ⟨999, Nat.le_refl _, by rw [if_neg (by decide)], ?_⟩
      rw [if_pos (by decide)]
      rfl
    · refine ⟨q + 1, by omega, ?_, ?_⟩
      · by_cases h8 : q + 1 < 999
        · rw [if_pos (nI_lt h8 (by decide))]
        · rw [if_neg (nI_nlt (by omega) (by omega)), show q + 1 = 999 by omega]
      · rw [if_neg (nI_ge (by omega) (by decide))]
  obtain ⟨z, hz, ez, erw⟩ := ew
  have s1 : Sim mb pn (va_up T 14 (upd (T 14) p (nI z))) o so (rW f p) := by
    rw [erw]; exact h.put hk.mb hk.pn (c := 14) (Or.inr ⟨rfl, hp⟩) _
  have k1 : tOK mb pn (va_up T 14 (upd (T 14) p (nI z))) := hk.went hz
  unfold tCnt
  rw [ez]
  generalize va_up T 14 (upd (T 14) p (nI z)) = T1 at s1 k1 ⊢
  generalize rW f p = f1 at s1 ⊢
  have e15 : T1 15 p = f1 (41 + p) := s1.1.p (c := 15) rfl hp
  have e6 : T1 6 m = f1 (55 + m) := s1.1.m (c := 6) rfl hm
  refine ⟨?_, k1.off _ (by decide) (by decide) (by decide) (by decide) (by decide) (by decide) (by decide)⟩
  have ev : rB f1 m p = upd f1 (41 + p) (if T1 15 p + T1 6 m < nI 9999 then T1 15 p + T1 6 m else nI 9999) := by
    unfold rB
    rw [← e15, ← e6]
    by_cases h1 : T1 15 p + T1 6 m < nI 9999
    · rw [if_pos h1, if_pos (Int32.le_of_lt h1)]
    · rw [if_neg h1]
      by_cases h2 : T1 15 p + T1 6 m ≤ nI 9999
      · rw [if_pos h2]
        have : T1 15 p + T1 6 m = nI 9999 := by
          rw [Int32.lt_iff_toInt_lt] at h1
          rw [Int32.le_iff_toInt_le] at h2
          exact Int32.toInt_inj.mp (by omega)
        rw [this]
      · rw [if_neg h2]
  rw [ev]
  exact s1.put hk.mb hk.pn (c := 15) (Or.inr ⟨rfl, hp⟩) _
