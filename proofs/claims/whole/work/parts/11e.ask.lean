section BB
variable {bd : Nat} {Y : xY} {G : xG} {N : xM} {a b2 e l x y z v w : Int32}
theorem there_bN (f : Nat → Int32) : ∀ n, n ≤ 6 → rThere f n = nI (bN (fun i => decide (¬ rInTray f i)) n)
  | 0, _ => rfl
  | n + 1, hn => by
    rw [rThere, there_bN f n (by omega)]
    split
    · rename_i c
      rw [bN_skip (by simp [c]), or_zero]
    · rename_i c
      rw [bN_step (by omega) (by simp [c])]
theorem outN : ∀ m, m < 7 → ∀ A, A < 64 → ∀ B, B < 64 → (nI (2 ^ m - 1) &&& (nI A ^^^ (-1))) &&& (nI B ^^^ (-1)) = nI (((2 ^ m - 1) &&& (63 ^^^ A)) &&& (63 ^^^ B)) := by
  intro m hm A hA B hB
  have e : ∀ c, c < 64 → (nI c ^^^ (-1) : Int32) = nI (2 ^ 32 - 1 - c) := by decide +kernel
  rw [e A hA, e B hB, nI_and, nI_and]
  congr 1
  have key : ∀ m, m < 7 → ∀ A, A < 64 → (2 ^ m - 1) &&& (2 ^ 32 - 1 - A) = (2 ^ m - 1) &&& (63 ^^^ A) := by decide +kernel
  rw [key m hm A hA]
  have lt : (2 ^ m - 1) &&& (63 ^^^ A) < 64 := Nat.lt_of_le_of_lt Nat.and_le_left (by
    have : 2 ^ m ≤ 2 ^ 6 := Nat.pow_le_pow_right (by decide) (by omega)
    omega)
  have key2 : ∀ x, x < 64 → ∀ B, B < 64 → x &&& (2 ^ 32 - 1 - B) = x &&& (63 ^^^ B) := by decide +kernel
  exact key2 _ lt B hB
theorem tb_bN (P : Nat → Bool) (n i : Nat) : (bN P n).testBit i = (decide (i < n) && P i) := by
  by_cases h : i < n
  · have := bN_bit P n i h
    rw [Nat.testBit_eq_decide_div_mod_eq, this]
    cases P i <;> simp [h]
  · rw [Nat.testBit_lt_two_pow (Nat.lt_of_lt_of_le (bN_lt P n) (Nat.pow_le_pow_right (by decide) (by omega)))]
    simp [h]
theorem out_sim {mb pn : Nat} {T : xT} {o so f : Nat → Int32} (h : Sim0 mb pn T o so f) (hm : mb ≤ 6) : tOut T mb = nI (bN (fun i => decide (¬ rInTray f i)) mb) := by
  unfold tOut
  have h64 : 2 ^ mb ≤ 64 := Nat.pow_le_pow_right (by decide) hm
  have hA := bN_lt (fun i => decide (rIn (f (49 + i)) (nI 8) (nI 8))) mb
  have hB := bN_lt (fun i => decide (rIn (f (49 + i)) (nI 9) (nI 9))) mb
  rw [bits_sim h _ _ mb (Nat.le_refl _), bits_sim h _ _ mb (Nat.le_refl _), those_bN f _ _ mb hm, those_bN f _ _ mb hm, nI_1shl (by omega), pk_sub (by have := Nat.one_le_two_pow (n := mb); omega), outN mb (by omega) _ (by omega) _ (by omega)]
  congr 1
  apply Nat.eq_of_testBit_eq
  intro i
  rw [Nat.testBit_and, Nat.testBit_and, Nat.testBit_xor, Nat.testBit_xor, Nat.testBit_two_pow_sub_one, tb_bN, tb_bN, tb_bN, show (63 : Nat) = 2 ^ 6 - 1 from rfl, Nat.testBit_two_pow_sub_one]
  by_cases hi : i < mb
  · have h6 : i < 6 := by omega
    simp only [hi, h6, decide_true, Bool.true_and]
    have e : decide (¬ rInTray f i) = (!decide (rIn (f (49 + i)) (nI 8) (nI 8)) && !decide (rIn (f (49 + i)) (nI 9) (nI 9))) := by
      rw [Bool.eq_iff_iff]
      simp only [decide_eq_true_eq, Bool.and_eq_true, Bool.not_eq_true', decide_eq_false_iff_not, rIn_eq]
      exact not_or
    rw [e]
    cases decide (rIn (f (49 + i)) (nI 8) (nI 8)) <;> cases decide (rIn (f (49 + i)) (nI 9) (nI 9)) <;> rfl
  · simp [hi]
theorem wtA_sim {mb pn : Nat} {T : xT} {o so f : Nat → Int32} (h : Sim0 mb pn T o so f) (s : Int32) : ∀ n, n ≤ mb → tWt T s n = rWt f s n
  | 0, _ => rfl
  | n + 1, hn => by
    have e6 : T 6 n = f (55 + n) := h.m (c := 6) rfl (by omega)
    rw [tWt, rWt, wtA_sim h s n (by omega), e6]
    rcases and1 (s >>> (nI n &&& 31)) with q | q
    · rw [q, if_pos rfl, Int32.zero_mul]
      exact (Int32.add_zero _).symm
    · rw [q, if_neg (by decide), show (nI 1 : Int32) = 1 from rfl, Int32.one_mul]
theorem rSet_cg {th v : Int32} {wv wv' : Nat → Int32} : ∀ n, (∀ i, i < n → wv i = wv' i) → rSet th wv v n = rSet th wv' v n
  | 0, _ => rfl
  | n + 1, h => by rw [rSet, rSet, rSet_cg n (fun i hi => h i (by omega)), h n (by omega)]
theorem over : ∀ F, F < 64 → ∀ i, i < 64 → F < i → ¬ i &&& F = i := by decide +kernel
theorem rSet_cut {F : Nat} (hF : F < 64) (wv : Nat → Int32) (v : Int32) : ∀ k, F + 1 + k ≤ 64 → rSet (nI F) wv v (F + 1 + k) = rSet (nI F) wv v (F + 1)
  | 0, _ => rfl
  | k + 1, h => by
    rw [show F + 1 + (k + 1) = (F + 1 + k) + 1 by omega, rSet, if_neg (fun q => over F hF (F + 1 + k) (by omega) (by omega) ((and_not (by omega) (by omega)).mp q.1)), rSet_cut hF wv v k (by omega)]
theorem b_sets (h : Rl bd Y G N (N 40)) : Both bd 16 cX6_sets 3 [some (xR 0 0), some (xI z), some (xI y)] cX7_sets 8 [some (xR 40 0), some (xI z), some (xI y), none, none, none, none, none] Y G N := by
  obtain ⟨mb, pn, hrun, -⟩ := h.2.2.2.2.2.2
  refine kX6_sets (d := 12) h.1 rfl hrun.c (w := aSets (rSet (rThere (N 40 13) mb) (fun i => rWt (N 40 13) (nI i) mb) z (2 ^ mb)) y) ?_ ⟨rfl, V_in1 40 (kX7_sets (d := 15) h.1.mo hrun.r ⟨rfl, rfl, ⟨_, rfl⟩, h.stay (cStay.rf _) (rKeep.rf _)⟩)⟩
  intro hm _
  have L := hrun.m (m := 0) hm
  have h64 : 2 ^ mb ≤ 64 := Nat.pow_le_pow_right (by decide) L.b6
  have hlt := bN_lt (fun i => decide (¬ rInTray (N 40 13) i)) mb
  refine ⟨_, by omega, out_sim L.sim.1 L.b6, ?_⟩
  rw [there_bN _ mb L.b6, rSet_cg (wv := fun i => tWt (N 3) (nI i) mb) (wv' := fun i => rWt (N 40 13) (nI i) mb) _ (fun i _ => wtA_sim L.sim.1 (nI i) mb (Nat.le_refl _))]
  congr 1
  have := rSet_cut (F := bN (fun i => decide (¬ rInTray (N 40 13) i)) mb) (by omega) (fun i => rWt (N 40 13) (nI i) mb) z (2 ^ mb - (bN (fun i => decide (¬ rInTray (N 40 13) i)) mb + 1)) (by omega)
  rw [← this]
  congr 1
  omega
theorem went_sim {mb pn : Nat} {T : xT} {o so f : Nat → Int32} (h : Sim0 mb pn T o so f) : ∀ n, n ≤ pn → tWent T n = rWentA f n
  | 0, _ => rfl
  | n + 1, hn => by
    have e : T 14 n = f (33 + n) := h.p (c := 14) rfl (by omega)
    rw [tWent, rWentA, went_sim h n (by omega), e]
theorem tWent_nn {mb pn : Nat} {T : xT} (h : tOK mb pn T) : ∀ n, n ≤ pn → ∃ q, q ≤ 999 * n ∧ tWent T n = nI q
  | 0, _ => ⟨0, by omega, rfl⟩
  | n + 1, hn => by
    obtain ⟨q, h1, h2⟩ := tWent_nn h n (by omega)
    obtain ⟨w, h3, h4⟩ := h.we n (by omega)
    rw [tWent]
    exact ⟨q + w, by omega, by rw [h2, h4, nI_add]⟩
theorem shO_sim {mb pn : Nat} {T : xT} {o so f : Nat → Int32} (h : Sim0 mb pn T o so f) (n all : Int32) : ∀ k, k ≤ pn → cShO n all T k = rShO n all f k
  | 0, _ => rfl
  | k + 1, hk => by
    have e : T 14 k = f (33 + k) := h.p (c := 14) rfl (by omega)
    rw [cShO, rShO, shO_sim h n all k (by omega), e]
theorem shA_sim {mb pn : Nat} {T : xT} {o so f : Nat → Int32} (h : Sim0 mb pn T o so f) (p : Nat) : ∀ k, k ≤ pn → cShA T p k = rShA f p k
  | 0, _ => rfl
  | k + 1, hk => by
    have e : T 14 k = f (33 + k) := h.p (c := 14) rfl (by omega)
    rw [cShA, rShA, shA_sim h p k (by omega), e]
theorem sh_sim {mb pn p : Nat} {T : xT} {o so f : Nat → Int32} (h : Sim0 mb pn T o so f) (hk : tOK mb pn T) (hp : p < pn) (n : Int32) : cSh T pn p n = rSh f pn p n := by
  have e : T 14 p = f (33 + p) := h.p (c := 14) rfl hp
  obtain ⟨q, h1, h2⟩ := tWent_nn hk pn (Nat.le_refl _)
  obtain ⟨g, h3, h4⟩ := hk.we p hp
  have := hk.pn
  unfold cSh rSh
  rw [shA_sim h p pn (Nat.le_refl _), shO_sim h _ _ pn (Nat.le_refl _), ← went_sim h pn (Nat.le_refl _), ← e, h2, h4]
  by_cases c : q = 0
  · subst c
    rw [if_pos (by decide), if_pos (by decide)]
  · have c1 : ¬ nI q = 0 := fun z => c (nI_inj (by omega) (by decide) z)
    have c2 : ¬ nI q ≤ 0 := fun z => c1 (Int32.le_antisymm z (Int32.not_lt.mp (nI_pos (by omega))))
    rw [if_neg c2, if_neg c1]
    by_cases c3 : g = 0
    · subst c3
      rw [if_pos (by decide), if_neg (fun z => absurd z.1 (by decide)), show (nI 0 : Int32) = 0 from rfl, Int32.mul_zero, Int32.zero_div]
      rfl
    · have c4 : ¬ nI g = 0 := fun z => c3 (nI_inj (by omega) (by decide) z)
      have c5 : (0 : Int32) < nI g := (nI_ltI (a := 0) (by omega) (by omega)).mpr (by omega)
      rw [if_neg c4]
      by_cases c6 : nI (rShA f p pn) < rShO n (nI q) f pn
      · rw [if_pos c6, if_pos ⟨c5, c6⟩]
      · rw [if_neg c6, if_neg (fun z => c6 z.2)]
theorem b_share (h : Rl bd Y G N (N 40)) : Both bd 16 cX6_share 3 [some (xR 0 0), some (xI a), some (xI z)] cX7_share 7 [some (xR 40 0), some (xI a), some (xI z), none, none, none, none] Y G N := by
  obtain ⟨mb, pn, hrun, -⟩ := h.2.2.2.2.2.2
  refine kX6_share (d := 14) h.1 rfl hrun.c (v := rSh (N 40 13) pn a.toNatClampNeg z) ?_ ⟨rfl, V_in1 40 (kX7_share (d := 14) h.1.mo hrun.r (v := rSh (N 40 13) pn a.toNatClampNeg z) ?_ ⟨rfl, rfl, ⟨_, rfl⟩, h.stay (cStay.rf _) (rKeep.rf _)⟩)⟩
  · rintro p rfl hp _
    rw [nI_clamp (by have := hrun.c.b6; omega)]
    exact sh_sim (hrun.p hp).sim.1 (hrun.p hp).ok hp z
  · rintro p rfl hp
    rw [nI_clamp (by have := hrun.c.b6; omega)]
end BB
