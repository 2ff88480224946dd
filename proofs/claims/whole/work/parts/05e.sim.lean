/-! A TICK, on both sides -/
theorem in1_sim {mb pn : Nat} {T : xT} {o so f : Nat → Int32} (h : Sim mb pn T o so f) (hk : tOK mb pn T) {i : Nat} (hi : i < mb) : Sim mb pn (tIn1 T i) o so (rI1 f i) ∧ tOK mb pn (tIn1 T i) ∧ ∀ j, j ≠ i → tIn1 T i 8 j = T 8 j := by
  have g8 : T 8 i = f (49 + i) := h.1.m (c := 8) rfl hi
  have g7 : T 7 i = f (61 + i) := h.1.m (c := 7) rfl hi
  have g1 : T 0 1 = f 0 := h.2
  unfold tIn1 rI1
  rw [← g8, ← g7, ← g1]
  by_cases c1 : T 8 i = nI 10
  · rw [if_pos c1, if_pos c1]
    by_cases c2 : T 0 1 < T 7 i
    · rw [if_pos c2, if_pos c2]
      exact ⟨h, hk, fun _ _ => rfl⟩
    · rw [if_neg c2, if_neg c2]
      refine ⟨h.put hk.mb hk.pn (c := 8) (Or.inl ⟨rfl, hi⟩) _, hk.place (z := 0) (Or.inl hk.2.1) (hk.free hi c1 (by decide)), fun j hj => by rw [va_up_eq, upd_no _ _ hj]⟩
  · rw [if_neg c1, if_neg c1]
    exact ⟨h, hk, fun _ _ => rfl⟩
theorem in_sim {mb pn : Nat} {T : xT} {o so f : Nat → Int32} (h : Sim mb pn T o so f) (hk : tOK mb pn T) : ∀ i, i ≤ mb → Sim mb pn (tIn T i) o so (rI f i) ∧ tOK mb pn (tIn T i)
  | 0, _ => ⟨h, hk⟩
  | i + 1, hi => by
    obtain ⟨s1, k1⟩ := in_sim h hk i (by omega)
    obtain ⟨s2, k2, -⟩ := in1_sim s1 k1 (show i < mb by omega)
    exact ⟨s2, k2⟩
theorem in_at {mb pn : Nat} {T : xT} {o so f : Nat → Int32} (h : Sim mb pn T o so f) (hk : tOK mb pn T) {j : Nat} : ∀ i, j < i → i ≤ mb → tIn T i 8 j = tIn T (j + 1) 8 j
  | 0, h0, _ => absurd h0 (by omega)
  | i + 1, h0, hi => by
    by_cases e : j = i
    · subst e; rfl
    · obtain ⟨s1, k1⟩ := in_sim h hk i (by omega)
      have h3 := (in1_sim s1 k1 (show i < mb by omega)).2.2 j e
      rw [tIn, h3]
      exact in_at h hk i (by omega) (by omega)
/-- who is to leave -/
def tMv (pn : Nat) (T : xT) (i : Nat) : Bool := decide (tIn T (i + 1) 8 i < nI pn)
theorem mov_bN {mb pn : Nat} {T : xT} {o so f : Nat → Int32} (h : Sim mb pn T o so f) (hk : tOK mb pn T) : ∀ i, i ≤ mb → tMov T i = nI (bN (tMv pn T) i) ∧ rRun f i = nI (bN (tMv pn T) i)
  | 0, _ => ⟨rfl, rfl⟩
  | i + 1, hi => by
    have hmb := hk.mb
    have hpn := hk.pn
    obtain ⟨e1, e2⟩ := mov_bN h hk i (by omega)
    obtain ⟨s1, k1⟩ := in_sim h hk (i + 1) hi
    have g8 : tIn T (i + 1) 8 i = rI f (i + 1) (49 + i) := s1.1.m (c := 8) rfl (by omega)
    obtain ⟨q, eq, hq⟩ := k1.pl i (by omega)
    rw [tMov, rRun, k1.e3, ← g8, eq, e1, e2]
    by_cases c : q < pn
    · have hP : tMv pn T i = true := by
        unfold tMv
        rw [eq]
        exact decide_eq_true (nI_lt c (by omega))
      rw [if_neg (nI_ge c (by omega)), if_neg (nI_ge (by omega) (by decide)), bN_step (by omega) hP]
      exact ⟨rfl, rfl⟩
    · have hP : tMv pn T i = false := by
        unfold tMv
        rw [eq]
        exact decide_eq_false (nI_nlt (by omega) (by unfold okq at hq; omega))
      rw [if_pos (nI_le (by omega) (by unfold okq at hq; omega)), if_pos (nI_le (by unfold okq at hq; omega) (by unfold okq at hq; omega)), or_zero, bN_skip hP]
      exact ⟨rfl, rfl⟩
theorem mv_at {mb pn : Nat} {T : xT} {o so f : Nat → Int32} (h : Sim mb pn T o so f) (hk : tOK mb pn T) {j : Nat} (hj : j < mb) (hm : tMv pn T j = true) : ∃ q, q < pn ∧ tIn T mb 8 j = nI q := by
  have hpn := hk.pn
  obtain ⟨s1, k1⟩ := in_sim h hk (j + 1) (by omega)
  obtain ⟨q, eq, hq⟩ := k1.pl j hj
  refine ⟨q, ?_, by rw [in_at h hk mb hj (Nat.le_refl _)]; exact eq⟩
  unfold tMv at hm
  rw [eq] at hm
  exact (nI_ltI (by unfold okq at hq; omega) (by omega)).mp (of_decide_eq_true hm)
theorem go_sim {mb pn : Nat} {T : xT} {o so f : Nat → Int32} (h : Sim mb pn T o so f) (hk : tOK mb pn T) : ∀ i, i ≤ mb → Sim mb pn (tGo (tMov T mb) (tIn T mb) i) o so (rG o so (rRun f mb) (rI f mb) i) ∧ tOK mb pn (tGo (tMov T mb) (tIn T mb) i) ∧ ∀ j, i ≤ j → j < mb → tMv pn T j = true → ∃ q, q < pn ∧ tGo (tMov T mb) (tIn T mb) i 8 j = nI q
  | 0, _ => by
    obtain ⟨s1, k1⟩ := in_sim h hk mb (Nat.le_refl _)
    exact ⟨s1, k1, fun j _ hj hm => mv_at h hk hj hm⟩
  | i + 1, hi => by
    have hmb := hk.mb
    have hpn := hk.pn
    obtain ⟨s1, k1, a1⟩ := go_sim h hk i (by omega)
    obtain ⟨e1, e2⟩ := mov_bN h hk mb (Nat.le_refl _)
    have hb := bN_get (P := tMv pn T) (n := mb) (i := i) (by omega) (by omega)
    rw [tGo, rG, tGo1, rG1]
    rw [← e1] at hb
    have hb2 := hb
    rw [e1, ← e2] at hb2
    rw [hb, hb2]
    cases hP : tMv pn T i with
    | true =>
      obtain ⟨p, hp, ep⟩ := a1 i (Nat.le_refl _) (by omega) hP
      rw [if_neg (show ¬ (if true = true then nI 1 else 0) = 0 by decide), if_pos (show (if true = true then nI 1 else 0) = nI 1 by decide), ep, nI_clamp (by omega)]
      obtain ⟨s2, k2, a2⟩ := leave_sim s1 k1 (show i < mb by omega) hp ep
      refine ⟨s2, k2, fun j hj1 hj2 hm => ?_⟩
      obtain ⟨q, hq, eq⟩ := a1 j (by omega) hj2 hm
      exact ⟨q, hq, a2 j q hj2 (by omega) eq (by omega)⟩
    | false =>
      rw [if_pos (show (if false = true then nI 1 else 0) = 0 by decide), if_neg (show ¬ (if false = true then nI 1 else 0) = nI 1 by decide)]
      exact ⟨s1, k1, fun j hj1 hj2 hm => a1 j (by omega) hj2 hm⟩
theorem pass_sim {mb pn : Nat} {T : xT} {o so f : Nat → Int32} (h : Sim mb pn T o so f) (hk : tOK mb pn T) : tSafe T mb ∧ rSafe o so mb f ∧ Sim mb pn (tPass T mb) o so (rTick o so mb f) ∧ tOK mb pn (tPass T mb) := by
  have hmb := hk.mb
  have hpn := hk.pn
  obtain ⟨e1, e2⟩ := mov_bN h hk mb (Nat.le_refl _)
  refine ⟨?_, ?_, ?_⟩
  · intro i hi hb
    obtain ⟨-, -, a1⟩ := go_sim h hk i (by omega)
    have hg := bN_get (P := tMv pn T) (n := mb) hi (by omega)
    rw [← e1] at hg
    rw [hg] at hb
    cases hP : tMv pn T i with
    | true =>
      obtain ⟨q, hq, eq⟩ := a1 i (Nat.le_refl _) hi hP
      exact ⟨q, by omega, eq⟩
    | false => rw [hP] at hb; exact absurd rfl hb
  · intro i hi hb
    obtain ⟨s1, k1, a1⟩ := go_sim h hk i (by omega)
    have hg := bN_get (P := tMv pn T) (n := mb) hi (by omega)
    rw [← e2] at hg
    rw [hg] at hb
    cases hP : tMv pn T i with
    | true =>
      obtain ⟨q, hq, eq⟩ := a1 i (Nat.le_refl _) hi hP
      have g8 := s1.1.m (c := 8) rfl hi
      have g13 := s1.1.p (c := 13) rfl hq
      refine ⟨q, by omega, g8.symm.trans eq, fun hh => ?_⟩
      rcases k1.ho q hq with e3 | ⟨m2, h2, h3, -⟩
      · exact absurd (g13.symm.trans e3) hh
      · exact ⟨m2, by omega, g13.symm.trans h3⟩
    | false => rw [hP] at hb; exact absurd hb (by decide)
  · obtain ⟨s1, k1, -⟩ := go_sim h hk mb (Nat.le_refl _)
    unfold tPass rTick
    generalize tGo (tMov T mb) (tIn T mb) mb = U at s1 k1 ⊢
    generalize rG o so (rRun f mb) (rI f mb) mb = g at s1 ⊢
    have ne : ∀ k, k ≠ 1 → tTick U 0 k = U 0 k := fun k hk => by unfold tTick; rw [va_up_eq, upd_no _ _ hk]
    have nc : ∀ c, c ≠ 0 → tTick U c = U c := fun c hc => va_up_no _ _ hc
    constructor
    · obtain ⟨⟨a1, a2, a3, a4, a5, a6, a7, a8, a9⟩, b1⟩ := s1
      refine ⟨⟨(ne 0 (by decide)).trans a1, (ne 2 (by decide)).trans a2, a3, (ne 3 (by decide)).trans a4, a5, (ne 4 (by decide)).trans a6, fun p hp => by rw [nc 9 (by decide)]; exact a7 p hp, ?_, ?_⟩, ?_⟩
      · intro c hc j hj
        have hcp := bs_pos (Or.inl hc)
        unfold rT1
        rw [nc c hcp.1, upd_no _ _ (by omega)]
        exact a8 c hc j hj
      · intro c hc j hj
        have hcp := bs_pos (Or.inr hc)
        unfold rT1
        rw [nc c hcp.1, upd_no _ _ (by omega)]
        exact a9 c hc j hj
      · unfold tTick rT1
        rw [va_up_eq, upd_eq, upd_eq, b1]
    · unfold tOK
      rw [ne 2 (by decide), ne 3 (by decide), nc 8 (by decide), nc 10 (by decide), nc 11 (by decide), nc 12 (by decide), nc 13 (by decide), nc 14 (by decide)]
      exact k1
