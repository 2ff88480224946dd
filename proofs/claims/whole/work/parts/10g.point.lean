theorem PE.swl {T U : xT} (h : PE T U) {p : Nat} (hp : ¬ (T 9 p = nI 1 ∨ T 9 p = nI 2)) : PE (tSwing T p) U := by
  unfold tSwing
  refine ⟨fun c hc => ?_, fun q hq => ?_⟩
  · rw [va_up_no _ _ hc]; exact h.1 c hc
  · rw [va_up_no _ _ (by decide)] at hq
    have e : q ≠ p := fun e => hp (by rw [← e]; exact hq)
    rw [va_up_eq, upd_no _ _ e]; exact h.2 q hq
theorem ptd_bN (T : xT) : ∀ n, n ≤ 8 → tPtd T n = nI (bN (fun i => decide (T 9 i = nI 1 ∨ T 9 i = nI 2)) n)
  | 0, _ => rfl
  | n + 1, hn => by
    rw [tPtd, ptd_bN T n (by omega)]
    by_cases c1 : T 9 n = nI 1
    · rw [if_pos c1, bN_step (by omega) (decide_eq_true (Or.inl c1))]
    · rw [if_neg c1]
      by_cases c2 : T 9 n = nI 2
      · rw [if_pos c2, bN_step (by omega) (decide_eq_true (Or.inr c2))]
      · rw [if_neg c2, bN_skip (decide_eq_false (fun h => h.elim c1 c2))]
theorem bitI {a i : Nat} (ha : a < 256) (hi : i < 8) : (nI a >>> (nI i &&& 31)) &&& nI 1 = nI (a / 2 ^ i % 2) := by
  rw [nI_shr (by omega) (by omega), pk_andN (by have : a / 2 ^ i ≤ a := Nat.div_le_self _ _; omega) 1 (by decide), Nat.pow_one]
theorem and_bit (s q i : Nat) (h : q / 2 ^ i % 2 = 1) : (s &&& q) / 2 ^ i % 2 = s / 2 ^ i % 2 := by
  have e := Nat.testBit_and s q i
  simp only [Nat.testBit_eq_decide_div_mod_eq] at e
  rw [decide_eq_true h, Bool.and_true] at e
  by_cases c : s / 2 ^ i % 2 = 1
  · rw [decide_eq_true c] at e
    rw [c]; exact of_decide_eq_true e
  · rw [decide_eq_false c] at e
    have := of_decide_eq_false e
    omega
theorem PE.swAll {T : xT} {pn pt k : Nat} (hpn : pn ≤ 8) (hpt : tPtd T pn = nI pt) (hpt2 : pt < 256) (hk : k < 256) : ∀ n, n ≤ pn → PE (tSwAll T (nI k) n) (tSwAll T (nI (k &&& pt)) n)
  | 0, _ => PE.rf T
  | n + 1, hn => by
    have ih := PE.swAll hpn hpt hpt2 hk n (by omega)
    have hkp : k &&& pt < 256 := Nat.lt_of_le_of_lt Nat.and_le_left hk
    rw [tSwAll, tSwAll, bitI hk (by omega), bitI hkp (by omega)]
    have e9 : tSwAll T (nI k) n 9 = T 9 := tSwAll_ne T _ (by decide) n
    have hbl := bN_lt (fun i => decide (T 9 i = nI 1 ∨ T 9 i = nI 2)) pn
    have h2 : 2 ^ pn ≤ 2 ^ 8 := Nat.pow_le_pow_right (by decide) hpn
    have hptb : pt = bN (fun i => decide (T 9 i = nI 1 ∨ T 9 i = nI 2)) pn := nI_inj (by omega) (by omega) (by rw [← hpt]; exact ptd_bN T pn hpn)
    by_cases c : T 9 n = nI 1 ∨ T 9 n = nI 2
    · have hb : pt / 2 ^ n % 2 = 1 := by rw [hptb, bN_bit _ pn n (by omega), decide_eq_true c]; rfl
      rw [and_bit k pt n hb]
      by_cases z : nI (k / 2 ^ n % 2) = 0
      · rw [if_pos z, if_pos z]; exact ih
      · rw [if_neg z, if_neg z]; exact ih.swing (by rw [e9]; exact c)
    · have hb : pt / 2 ^ n % 2 = 0 := by rw [hptb, bN_bit _ pn n (by omega), decide_eq_false c]; rfl
      have hz : (k &&& pt) / 2 ^ n % 2 = 0 := by
        have := bit_and pt k n
        rw [Nat.and_comm] at this
        omega
      rw [hz, if_pos (show nI 0 = 0 from rfl)]
      by_cases z : nI (k / 2 ^ n % 2) = 0
      · rw [if_pos z]; exact ih
      · rw [if_neg z]; exact ih.swl (by rw [e9]; exact c)
