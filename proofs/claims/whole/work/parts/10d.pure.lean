theorem rIn_eq {x z : Int32} : rIn x z z ↔ x = z := ⟨fun h => Int32.le_antisymm (Int32.not_lt.mp h.2) (Int32.not_lt.mp h.1), fun h => by rw [h]; exact ⟨Int32.lt_irrefl, Int32.lt_irrefl⟩⟩
theorem wt_sim {mb pn : Nat} {T : xT} {o so f : Nat → Int32} (h : Sim0 mb pn T o so f) (hm : mb ≤ 6) : tWt T (tBits T (nI 9) (nI 9) mb) mb = rSm f mb := by
  rw [bits_sim h (nI 9) (nI 9) mb (Nat.le_refl _), those_bN f _ _ mb hm]
  have : ∀ n, n ≤ mb → tWt T (nI (bN (fun i => decide (rIn (f (49 + i)) (nI 9) (nI 9))) mb)) n = rSm f n := by
    intro n
    induction n with
    | zero => intro _; rfl
    | succ n ih =>
      intro hn
      have e6 : T 6 n = f (55 + n) := h.m (c := 6) rfl (by omega)
      rw [tWt, rSm, ih (by omega), bN_get (by omega) (by omega), e6]
      by_cases c : f (49 + n) = nI 9
      · rw [decide_eq_true (rIn_eq.mpr c), if_pos c, if_pos rfl, if_neg (by decide)]
      · rw [decide_eq_false (fun q => c (rIn_eq.mp q)), if_neg c, if_pos (by decide)]
        exact (Int32.add_zero _).symm
  exact this mb (Nat.le_refl _)
theorem reW_sim {mb pn : Nat} {T : xT} {o so f : Nat → Int32} (h : Sim mb pn T o so f) (hk : tOK mb pn T) (π : Nat → Nat) (w s : Nat → Int32) (hw : ∀ j, j < mb → w (π j) = s (55 + π j)) : ∀ n, n ≤ mb → Sim mb pn (tReW π w T n) o so (rReW π s f n)
  | 0, _ => h
  | n + 1, hn => by
    rw [tReW, rReW, hw n (by omega)]
    exact (reW_sim h hk π w s hw n (by omega)).put hk.mb hk.pn (c := 6) (Or.inl ⟨rfl, by omega⟩) _
