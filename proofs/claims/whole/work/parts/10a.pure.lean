/-! CLASS BESIDE REFERENCE: what is foretold -/
theorem tAst_no {T : xT} : ∀ {n : Nat}, ¬ tAst T n = true → ∀ j, j < n → ¬ T 8 j < nI 8 ∧ ¬ T 8 j = nI 10
  | 0, _, j, hj => absurd hj (by omega)
  | n + 1, h, j, hj => by
    rw [tAst, Bool.or_eq_true, Bool.or_eq_true, decide_eq_true_eq, decide_eq_true_eq] at h
    by_cases e : j = n
    · rw [e]; exact ⟨fun q => h (Or.inr (Or.inl q)), fun q => h (Or.inr (Or.inr q))⟩
    · exact tAst_no (fun q => h (Or.inl q)) j (by omega)
theorem sh0 : ∀ i, i < 8 → (nI 0 >>> (nI i &&& 31)) &&& nI 1 = 0 := by decide +kernel
theorem still {mb pn : Nat} {T : xT} (hk : tOK mb pn T) (h : ¬ tAst T mb = true) : tPass T mb = tTick T := by
  have hn := tAst_no h
  have hmb := hk.mb
  have hpn := hk.pn
  have hin : ∀ n, n ≤ mb → tIn T n = T := by
    intro n
    induction n with
    | zero => intro _; rfl
    | succ n ih =>
      intro hle
      rw [tIn, ih (by omega), tIn1, if_neg (hn n (by omega)).2]
  have hmv : ∀ n, n ≤ mb → tMov T n = nI 0 := by
    intro n
    induction n with
    | zero => intro _; rfl
    | succ n ih =>
      intro hle
      rw [tMov, hin (n + 1) hle, if_pos, ih (by omega)]
      rw [hk.e3]
      exact Int32.le_trans ((nI_leI (by omega) (by decide)).mpr hpn) (Int32.not_lt.mp (hn n (by omega)).1)
  have hgo : ∀ n, n ≤ mb → tGo (nI 0) T n = T := by
    intro n
    induction n with
    | zero => intro _; rfl
    | succ n ih =>
      intro hle
      rw [tGo, ih (by omega), tGo1, if_pos (sh0 n (by omega))]
  unfold tPass
  rw [hin mb (Nat.le_refl _), hmv mb (Nat.le_refl _), hgo mb (Nat.le_refl _)]
theorem Sim0.tick {mb pn : Nat} {T : xT} {o so f : Nat → Int32} (h : Sim0 mb pn (tTick T) o so f) : Sim0 mb pn T o so f := by
  obtain ⟨a1, a2, a3, a4, a5, a6, a7, a8, a9⟩ := h
  refine ⟨a1, a2, a3, a4, a5, a6, a7, fun c hc j hj => ?_, fun c hc j hj => ?_⟩
  · have := a8 c hc j hj
    unfold tTick at this
    rw [va_up_no _ _ (bs_pos (Or.inl hc)).1] at this
    exact this
  · have := a9 c hc j hj
    unfold tTick at this
    rw [va_up_no _ _ (bs_pos (Or.inr hc)).1] at this
    exact this
theorem tAst_tick (T : xT) : ∀ n, tAst (tTick T) n = tAst T n
  | 0 => rfl
  | n + 1 => by rw [tAst, tAst, tAst_tick T n]; rfl
theorem still_sim {mb pn : Nat} {o so : Nat → Int32} : ∀ (n : Nat) {T : xT} {f : Nat → Int32}, tOK mb pn T → ¬ tAst T mb = true → Sim mb pn T o so f → Sim0 mb pn T o so (rGo o so mb n f)
  | 0, _, _, _, _, hs => hs.1
  | n + 1, T, f, hk, h, hs => by
    have hp := pass_sim hs hk
    rw [still hk h] at hp
    have := still_sim n hp.2.2.2 (by rw [tAst_tick]; exact h) hp.2.2.1
    exact this.tick
theorem runOn_sim {mb pn : Nat} {o so : Nat → Int32} : ∀ (n : Nat) {T : xT} {f : Nat → Int32}, tOK mb pn T → Sim mb pn T o so f → Sim0 mb pn (tRunOn mb n T) o so (rGo o so mb n f)
  | 0, _, _, _, hs => hs.1
  | n + 1, T, f, hk, hs => by
    rw [tRunOn]
    by_cases h : tAst T mb = true
    · rw [if_pos h, rGo]
      have hp := pass_sim hs hk
      exact runOn_sim n hp.2.2.2 hp.2.2.1
    · rw [if_neg h]
      exact still_sim (n + 1) hk h hs
theorem bits_sim {mb pn : Nat} {T : xT} {o so f : Nat → Int32} (h : Sim0 mb pn T o so f) (lo hi : Int32) : ∀ n, n ≤ mb → tBits T lo hi n = rThose f lo hi n
  | 0, _ => rfl
  | n + 1, hn => by
    have e : T 8 n = f (49 + n) := h.m (c := 8) rfl (by omega)
    rw [tBits, rThose, bits_sim h lo hi n (by omega), e]
    by_cases c1 : f (49 + n) < lo
    · rw [if_pos c1, if_neg (fun q => q.1 c1), or_zero]
    · rw [if_neg c1]
      by_cases c2 : hi < f (49 + n)
      · rw [if_pos c2, if_neg (fun q => q.2 c2), or_zero]
      · rw [if_neg c2, if_pos ⟨c1, c2⟩]
theorem those_nat (f : Nat → Int32) (lo hi : Int32) {n : Nat} (hn : n ≤ 6) : ∃ s, s < 64 ∧ rThose f lo hi n = nI s := by
  have : ∀ n, n ≤ 6 → rThose f lo hi n = nI (bN (fun i => decide (rIn (f (49 + i)) lo hi)) n) := by
    intro n
    induction n with
    | zero => intro _; rfl
    | succ n ih =>
      intro hle
      rw [rThose, ih (by omega)]
      by_cases c : rIn (f (49 + n)) lo hi
      · rw [if_pos c, bN_step (by omega) (decide_eq_true c)]
      · rw [if_neg c, or_zero, bN_skip (decide_eq_false c)]
  refine ⟨_, ?_, this n hn⟩
  have h1 := bN_lt (fun i => decide (rIn (f (49 + i)) lo hi)) n
  have h2 : 2 ^ n ≤ 2 ^ 6 := Nat.pow_le_pow_right (by decide) hn
  omega
theorem many_sim {mb pn : Nat} {T : xT} {o so f : Nat → Int32} (h : Sim0 mb pn T o so f) (hm : mb ≤ 6) (lo hi : Int32) : jBC (tBits T lo hi mb) = rBits (rThose f lo hi mb) 8 := by
  rw [bits_sim h lo hi mb (Nat.le_refl _)]
  obtain ⟨s, hs, e⟩ := those_nat f lo hi hm
  rw [e, bcJ s (by omega), bcR s (by omega)]
