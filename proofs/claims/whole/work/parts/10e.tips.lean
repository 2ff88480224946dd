theorem rTp_lt (v : Nat → Int32) : ∀ i, (rTp v i).2 ≤ i
  | 0 => Nat.le_refl _
  | i + 1 => by
    have := rTp_lt v i
    rw [rTp]
    split
    · exact Nat.le_succ i
    · omega
theorem bits_lt {a c : Nat} (ha : a < 256) (hc : c < 256) : rBits (nI a) 8 < rBits (nI c) 8 ↔ bcN a < bcN c := by
  have := bcL a
  have := bcL c
  rw [bcR a ha, bcR c hc, nI_ltI (by omega) (by omega)]
theorem pref_eq {m v : Int32} {a c : Nat} (ha : a < 256) (hc : c < 256) : cPref m (nI c) (nI a) v ↔ rPref m (nI c) (nI a) v := by
  unfold cPref rPref
  rw [bcJ a ha, bcJ c hc, bcR a ha, bcR c hc]
/-- the best so far is the greatest, and of those the fewest -/
theorem rTp_inv (v : Nat → Int32) : ∀ i, i ≤ 256 → ∀ j, j < i → v j ≤ (rTp v i).1 ∧ (v j = (rTp v i).1 → bcN (rTp v i).2 ≤ bcN j)
  | 0, _, j, hj => absurd hj (by omega)
  | i + 1, hi, j, hj => by
    have ih := rTp_inv v i (by omega)
    have hl := rTp_lt v i
    rw [rTp]
    by_cases c : rPref (rTp v i).1 (nI (rTp v i).2) (nI i) (v i)
    · rw [if_pos c]
      by_cases e : j = i
      · rw [e]; exact ⟨Int32.le_refl _, fun _ => Nat.le_refl _⟩
      · obtain ⟨h1, h2⟩ := ih j (by omega)
        rcases c with c | ⟨c1, c2⟩
        · refine ⟨Int32.le_of_lt (Int32.lt_of_le_of_lt h1 c), fun q => ?_⟩
          exact absurd (Int32.lt_of_le_of_lt h1 c) (by show ¬ v j < v i; rw [show v j = v i from q]; exact Int32.lt_irrefl)
        · rw [bits_lt (by omega) (by omega)] at c2
          refine ⟨by show v j ≤ v i; rw [c1]; exact h1, fun q => ?_⟩
          have := h2 (by rw [← c1]; exact q)
          show bcN i ≤ bcN j
          omega
    · rw [if_neg c]
      by_cases e : j = i
      · rw [e]
        refine ⟨Int32.not_lt.mp fun q => c (Or.inl q), fun q => Nat.le_of_not_lt fun z => c (Or.inr ⟨q, (bits_lt (by omega) (by omega)).mpr z⟩)⟩
      · exact ih j (by omega)
theorem tips_eq {v : Nat → Int32} {pt K : Nat} (hpt : pt < K) (hK : K ≤ 256) (hW : ∀ k, k < K → v (k &&& pt) = v k) : rTp v K = cTp v pt (pt + 1) := by
  have h1 : ∀ i, i ≤ K → rTp v i = cTp v pt i := by
    intro i
    induction i with
    | zero => intro _; rfl
    | succ i ih =>
      intro hi
      have ih := ih (by omega)
      have hl := rTp_lt v i
      rw [rTp, cTp, ← ih]
      by_cases c : i &&& pt = i
      · rw [if_pos ((and_not (by omega) (by omega)).mpr c)]
        by_cases p : rPref (rTp v i).1 (nI (rTp v i).2) (nI i) (v i)
        · rw [if_pos p, if_pos ((pref_eq (by omega) (by omega)).mpr p)]
        · rw [if_neg p, if_neg (fun q => p ((pref_eq (by omega) (by omega)).mp q))]
      · rw [if_neg (fun q => c ((and_not (by omega) (by omega)).mp q))]
        have hs : i &&& pt < i := by
          have : i &&& pt ≤ i := Nat.and_le_left
          omega
        obtain ⟨a1, a2⟩ := rTp_inv v i (by omega) _ hs
        rw [hW i (by omega)] at a1 a2
        rw [if_neg]
        rintro (q | ⟨q1, q2⟩)
        · exact absurd q (Int32.not_lt.mpr a1)
        · rw [bits_lt (by omega) (by omega)] at q2
          have := a2 q1
          have := bcD i pt
          omega
  have h2 : ∀ n, pt + 1 + n ≤ K → cTp v pt (pt + 1 + n) = cTp v pt (pt + 1) := by
    intro n
    induction n with
    | zero => intro _; rfl
    | succ n ih =>
      intro hn
      rw [← Nat.add_assoc, cTp, if_neg, ih (by omega)]
      intro q
      have := (and_not (by omega) (by omega)).mp q
      have h3 : (pt + 1 + n) &&& pt ≤ pt := Nat.and_le_right
      omega
  rw [h1 K (Nat.le_refl _), show K = pt + 1 + (K - (pt + 1)) by omega, h2 _ (by omega)]
theorem leads_eq (v : Nat → Int32) (p : Nat) (hv : 0 ≤ v (p + 1)) : ∀ i, 1 ≤ i → rLd v p i = cLd v p i
  | 0, h => absurd h (by omega)
  | 1, _ => by
    rw [rLd, cLd]
    have : (-1 : Int32) < v (p + 1) := Int32.lt_of_lt_of_le (by decide) hv
    show (if (-1 : Int32) < v (p + 1) then _ else _) = (if (-1 : Int32) < v (p + 1) then _ else _)
    rw [if_pos this, if_pos this]
  | i + 2, _ => by rw [rLd, cLd, leads_eq v p hv (i + 1) (by omega)]
