theorem rSo_false (o so : Nat → Int32) (mb : Nat) (it : Nat → Int32) : ∀ (k j : Nat) (f : Nat → Int32), rSo o so mb it k j f false = false
  | 0, _, _ => rfl
  | k + 1, j, f => by rw [rSo, Bool.false_and]; exact rSo_false o so mb it k _ _
theorem fit_sim {mb pn : Nat} {o so g it : Nat → Int32} : ∀ (k j a : Nat) {T : xT} {f : Nat → Int32}, tOK mb pn T → Sim mb pn T o so f → (∀ i, i < k → g (j + i) = it (a + i)) → cFit mb g k j T = rSo o so mb it k a f true
  | 0, _, _, _, _, _, _, _ => rfl
  | k + 1, j, a, T, f, hk, hs, hg => by
    have hp := pass_sim hs hk
    have h8 := many_sim hp.2.2.1.1 hk.mb (nI 8) (nI 8)
    have h9 := many_sim hp.2.2.1.1 hk.mb (nI 9) (nI 9)
    have hg0 : g j = it a := hg 0 (by omega)
    rw [cFit, rSo, Bool.true_and, h8, h9, hg0]
    by_cases c : it a = rBits (rThose (rTick o so mb f) (nI 8) (nI 8) mb) 8 + nI 10 * rBits (rThose (rTick o so mb f) (nI 9) (nI 9) mb) 8
    · rw [if_pos c, decide_eq_true c.symm]
      exact fit_sim k (j + 1) (a + 1) hp.2.2.2 hp.2.2.1 (fun i hi => by have := hg (i + 1) (by omega); rw [show j + 1 + i = j + (i + 1) by omega, show a + 1 + i = a + (i + 1) by omega]; exact this)
    · rw [if_neg c, decide_eq_false (fun e => c e.symm), rSo_false]
theorem and63 : ∀ c, c < 64 → nI 63 &&& (nI c ^^^ (-1)) = nI (63 ^^^ c) := by decide +kernel
theorem bits_and_nat (f g : Nat → Int32) (tr : Int32) {mb : Nat} (hm : mb ≤ 6) : ∃ s, s < 64 ∧ rThose f tr tr mb &&& (rThose g tr tr mb ^^^ (-1)) = nI s := by
  obtain ⟨a, ha, ea⟩ := those_nat f tr tr hm
  obtain ⟨c, hc, ec⟩ := those_nat g tr tr hm
  have key : nI a &&& (nI c ^^^ (-1)) = nI (a &&& (63 ^^^ c)) := by
    have h1 : nI a &&& (nI c ^^^ (-1)) = (nI a &&& nI 63) &&& (nI c ^^^ (-1)) := by
      rw [nI_and, show a &&& 63 = a by
        have := Nat.and_two_pow_sub_one_of_lt_two_pow (x := a) (n := 6) ha
        exact this]
    have h2 : nI 63 &&& (nI c ^^^ (-1)) = nI (63 ^^^ c) := and63 c hc
    rw [h1, Int32.and_assoc, h2, nI_and]
  refine ⟨a &&& (63 ^^^ c), Nat.lt_of_le_of_lt Nat.and_le_left ha, ?_⟩
  rw [ea, ec, key]
theorem draw_sim {mb pn : Nat} {o so : Nat → Int32} (hm : 1 ≤ mb) (tr : Int32) : ∀ (k x : Nat) {T : xT} {f : Nat → Int32} (a : Int32), tOK mb pn T → Sim mb pn T o so f → tDraw mb pn tr k x T a = rDraw o so mb pn tr k x f a
  | 0, _, _, _, _, _, _ => rfl
  | k + 1, x, T, f, a, hk, hs => by
    have hd := dist_sim hs hk hm (x * 16807 % 2147483647)
    have hkd := hk.dist hm (x * 16807 % 2147483647)
    have hp := pass_sim hd hkd
    have e1 := bits_sim hd.1 tr tr mb (Nat.le_refl _)
    have e2 := bits_sim hp.2.2.1.1 tr tr mb (Nat.le_refl _)
    obtain ⟨s, hs6, es⟩ := bits_and_nat (rTick o so mb (rDist f mb pn (x * 16807 % 2147483647))) (rDist f mb pn (x * 16807 % 2147483647)) tr hk.mb
    rw [tDraw, rDraw, e1, e2, es, bcJ s (by omega), bcR s (by omega)]
    exact draw_sim hm tr k _ _ hp.2.2.2 hp.2.2.1
