theorem those_bN (f : Nat → Int32) (lo hi : Int32) : ∀ n, n ≤ 6 → rThose f lo hi n = nI (bN (fun i => decide (rIn (f (49 + i)) lo hi)) n)
  | 0, _ => rfl
  | n + 1, hle => by
    rw [rThose, those_bN f lo hi n (by omega)]
    by_cases c : rIn (f (49 + n)) lo hi
    · rw [if_pos c, bN_step (by omega) (decide_eq_true c)]
    · rw [if_neg c, or_zero, bN_skip (decide_eq_false c)]
theorem bN_zero {P : Nat → Bool} : ∀ {n : Nat}, bN P n = 0 ↔ ∀ j, j < n → P j = false
  | 0 => ⟨fun _ j hj => absurd hj (by omega), fun _ => rfl⟩
  | n + 1 => by
    rw [bN]
    constructor
    · intro h j hj
      have hp := Nat.two_pow_pos n
      split at h
      · omega
      · rename_i c
        by_cases e : j = n
        · rw [e]; exact Bool.eq_false_iff.mpr c
        · exact bN_zero.mp h j (by omega)
    · intro h
      rw [if_neg (by rw [h n (by omega)]; decide)]
      exact bN_zero.mpr (fun j hj => h j (by omega))
theorem tAst_iff {T : xT} : ∀ {n : Nat}, tAst T n = true ↔ ∃ j, j < n ∧ (T 8 j < nI 8 ∨ T 8 j = nI 10)
  | 0 => ⟨fun h => Bool.noConfusion h, fun ⟨j, hj, _⟩ => absurd hj (by omega)⟩
  | n + 1 => by
    rw [tAst, Bool.or_eq_true, Bool.or_eq_true, decide_eq_true_eq, decide_eq_true_eq, tAst_iff]
    constructor
    · rintro (⟨j, h1, h2⟩ | h)
      · exact ⟨j, by omega, h2⟩
      · exact ⟨n, by omega, h⟩
    · rintro ⟨j, h1, h2⟩
      by_cases e : j = n
      · rw [e] at h2; exact Or.inr h2
      · exact Or.inl ⟨j, by omega, h2⟩
theorem ast_sim {mb pn : Nat} {T : xT} {o so f : Nat → Int32} (hk : tOK mb pn T) (h : Sim0 mb pn T o so f) : tAst T mb = true ↔ ¬ rThose f (nI 0) (nI 7) mb ||| rThose f (nI 10) (nI 10) mb = 0 := by
  have hmb := hk.mb
  rw [those_bN f _ _ mb hmb, those_bN f _ _ mb hmb, nI_or]
  have b1 := bN_lt (fun i => decide (rIn (f (49 + i)) (nI 0) (nI 7))) mb
  have b2 := bN_lt (fun i => decide (rIn (f (49 + i)) (nI 10) (nI 10))) mb
  have h2 : 2 ^ mb ≤ 2 ^ 6 := Nat.pow_le_pow_right (by decide) hmb
  have hor := Nat.or_lt_two_pow b1 b2
  rw [show (0 : Int32) = nI 0 from rfl, nI_eq (by omega) (by decide), Nat.or_eq_zero_iff, bN_zero, bN_zero, tAst_iff]
  have key : ∀ j, j < mb → ((T 8 j < nI 8 ↔ rIn (f (49 + j)) (nI 0) (nI 7)) ∧ (T 8 j = nI 10 ↔ rIn (f (49 + j)) (nI 10) (nI 10))) := by
    intro j hj
    obtain ⟨q, eq, ok⟩ := hk.pl j hj
    have e : T 8 j = f (49 + j) := h.m (c := 8) rfl hj
    have hpn := hk.pn
    have hq : q < 100 := by unfold okq at ok; omega
    rw [← e, eq]
    refine ⟨⟨fun c => ⟨nI_nlt (by omega) (by omega), nI_nlt (by have := (nI_ltI (by omega) (by decide)).mp c; omega) (by omega)⟩, fun c => nI_lt (Nat.lt_of_not_le fun z => c.2 (nI_lt (by omega) (by omega))) (by decide)⟩, ⟨fun c => ?_, fun c => ?_⟩⟩
    · rw [(nI_eq (by omega) (by decide)).mp c]; decide
    · have h1 : 10 ≤ q := Nat.le_of_not_lt fun z => c.1 (nI_lt z (by decide))
      have h2 : q ≤ 10 := Nat.le_of_not_lt fun z => c.2 (nI_lt z (by omega))
      rw [show q = 10 by omega]
  constructor
  · rintro ⟨j, hj, c⟩ ⟨z1, z2⟩
    rcases c with c | c
    · exact absurd (z1 j hj) (by rw [decide_eq_true ((key j hj).1.mp c)]; decide)
    · exact absurd (z2 j hj) (by rw [decide_eq_true ((key j hj).2.mp c)]; decide)
  · intro hn
    refine Classical.byContradiction fun hc => hn ⟨fun j hj => decide_eq_false fun c => hc ⟨j, hj, Or.inl ((key j hj).1.mpr c)⟩, fun j hj => decide_eq_false fun c => hc ⟨j, hj, Or.inr ((key j hj).2.mpr c)⟩⟩
theorem when_sim {mb pn m : Nat} {o so : Nat → Int32} (hm : m < mb) : ∀ (k t : Nat) {T : xT} {f : Nat → Int32}, tOK mb pn T → Sim mb pn T o so f → tTT mb m k t T = rWh o so mb m k t f
  | 0, _, _, _, _, _ => rfl
  | k + 1, t, T, f, hk, hs => by
    rw [tTT, rWh]
    have ht := inTray_sim hs.1 hm
    have hp := pass_sim hs hk
    by_cases c : tInTray T m
    · rw [if_pos c, if_pos (ht.mp c)]
    · rw [if_neg c, if_neg (fun q => c (ht.mpr q))]
      exact when_sim hm k (t + 1) hp.2.2.2 hp.2.2.1
theorem rest_sim {mb pn : Nat} {o so : Nat → Int32} : ∀ (k t : Nat) {T : xT} {f : Nat → Int32}, tOK mb pn T → Sim mb pn T o so f → tTR mb k t T = rRs o so mb k t f
  | 0, _, _, _, _, _ => rfl
  | k + 1, t, T, f, hk, hs => by
    rw [tTR, rRs]
    have ha := ast_sim hk hs.1
    have hp := pass_sim hs hk
    by_cases c : tAst T mb = true
    · rw [if_pos c, if_neg (ha.mp c)]
      exact rest_sim k (t + 1) hp.2.2.2 hp.2.2.1
    · rw [if_neg c, if_pos (Classical.byContradiction fun q => c (ha.mpr q))]
