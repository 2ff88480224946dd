/-! THE CLASS'S LOOK: what may stand stays so -/
/-- a row that holds just what a track holds -/
def fOf (T : xT) : Nat → Int32 := fun j => if j = 0 then T 0 1 else if j < 9 then T 10 (j - 1) else if j < 17 then T 11 (j - 9) else if j < 25 then T 12 (j - 17) else if j < 33 then T 13 (j - 25) else if j < 41 then T 14 (j - 33) else if j < 49 then T 15 (j - 41) else if j < 55 then T 8 (j - 49) else if j < 61 then T 6 (j - 55) else T 7 (j - 61)
def oOf (T : xT) : Nat → Int32 := fun k => if k = 7 then T 0 0 else if k = 8 then T 0 2 else if k = 9 then T 0 3 else T 0 4
theorem Sim_of {mb pn : Nat} {T : xT} (hk : tOK mb pn T) : Sim mb pn T (oOf T) (T 9) (fOf T) := by
  have hmb := hk.mb
  have hpn := hk.pn
  refine ⟨⟨rfl, hk.e2, hk.e2, hk.e3, hk.e3, rfl, fun _ _ => rfl, ?_, ?_⟩, rfl⟩
  · intro c hc j hj
    rcases bsM_cases hc with rfl | rfl | rfl <;> simp only [bs, fOf]
    · rw [if_neg (by omega), if_neg (by omega), if_neg (by omega), if_neg (by omega), if_neg (by omega), if_neg (by omega), if_neg (by omega), if_neg (by omega), if_pos (by omega), show 55 + j - 55 = j by omega]
    · rw [if_neg (by omega), if_neg (by omega), if_neg (by omega), if_neg (by omega), if_neg (by omega), if_neg (by omega), if_neg (by omega), if_neg (by omega), if_neg (by omega), show 61 + j - 61 = j by omega]
    · rw [if_neg (by omega), if_neg (by omega), if_neg (by omega), if_neg (by omega), if_neg (by omega), if_neg (by omega), if_neg (by omega), if_pos (by omega), show 49 + j - 49 = j by omega]
  · intro c hc j hj
    rcases bsP_cases hc with rfl | rfl | rfl | rfl | rfl | rfl <;> simp only [bs, fOf]
    · rw [if_neg (by omega), if_pos (by omega), show 1 + j - 1 = j by omega]
    · rw [if_neg (by omega), if_neg (by omega), if_pos (by omega), show 9 + j - 9 = j by omega]
    · rw [if_neg (by omega), if_neg (by omega), if_neg (by omega), if_pos (by omega), show 17 + j - 17 = j by omega]
    · rw [if_neg (by omega), if_neg (by omega), if_neg (by omega), if_neg (by omega), if_pos (by omega), show 25 + j - 25 = j by omega]
    · rw [if_neg (by omega), if_neg (by omega), if_neg (by omega), if_neg (by omega), if_neg (by omega), if_pos (by omega), show 33 + j - 33 = j by omega]
    · rw [if_neg (by omega), if_neg (by omega), if_neg (by omega), if_neg (by omega), if_neg (by omega), if_neg (by omega), if_pos (by omega), show 41 + j - 41 = j by omega]
theorem tOK.safe {mb pn : Nat} {T : xT} (hk : tOK mb pn T) : tSafe T mb := (pass_sim (Sim_of hk) hk).1
theorem tOK.pass {mb pn : Nat} {T : xT} (hk : tOK mb pn T) : tOK mb pn (tPass T mb) := (pass_sim (Sim_of hk) hk).2.2.2
/-- as long as any waits or runs -/
def tRunOn (mb : Nat) : Nat → xT → xT
  | 0, T => T
  | n + 1, T => if tAst T mb = true then tRunOn mb n (tPass T mb) else T
theorem tOK.runOn {mb pn : Nat} : ∀ (n : Nat) {T : xT}, tOK mb pn T → tOK mb pn (tRunOn mb n T)
  | 0, _, h => h
  | n + 1, T, h => by
    rw [tRunOn]
    split
    · exact tOK.runOn n h.pass
    · exact h
/-- two tracks that hold the same where it matters -/
def EqT (mb pn : Nat) (T S : xT) : Prop := (∀ k, k < 5 → T 0 k = S 0 k) ∧ (∀ c, bsM c = true → ∀ j, j < mb → T c j = S c j) ∧ (∀ c, bsP c = true → ∀ j, j < pn → T c j = S c j) ∧ ∀ j, j < pn → T 9 j = S 9 j
theorem EqT.rf {mb pn : Nat} {T : xT} : EqT mb pn T T := ⟨fun _ _ => rfl, fun _ _ _ _ => rfl, fun _ _ _ _ => rfl, fun _ _ => rfl⟩
theorem EqT.sim {mb pn : Nat} {T S : xT} {o so f : Nat → Int32} (h : EqT mb pn T S) (hs : Sim mb pn S o so f) : Sim mb pn T o so f := by
  obtain ⟨⟨a1, a2, a3, a4, a5, a6, a7, a8, a9⟩, b1⟩ := hs
  obtain ⟨e1, e2, e3, e4⟩ := h
  exact ⟨⟨(e1 0 (by decide)).trans a1, (e1 2 (by decide)).trans a2, a3, (e1 3 (by decide)).trans a4, a5, (e1 4 (by decide)).trans a6, fun p hp => (e4 p hp).trans (a7 p hp), fun c hc j hj => (e2 c hc j hj).trans (a8 c hc j hj), fun c hc j hj => (e3 c hc j hj).trans (a9 c hc j hj)⟩, (e1 1 (by decide)).trans b1⟩
theorem EqT.ok {mb pn : Nat} {T S : xT} (h : EqT mb pn T S) (hk : tOK mb pn S) : tOK mb pn T := by
  obtain ⟨e1, e2, e3, e4⟩ := h
  obtain ⟨a1, a2, a3, a4, a5, a6, a7, a8, a9, a10, a11⟩ := hk
  refine ⟨a1, a2, a3, (e1 2 (by decide)).trans a4, (e1 3 (by decide)).trans a5, fun j hj => ?_, fun p hp => ?_, fun p hp => ?_, fun p hp => ?_, fun p hp => ?_, fun p hp => ?_⟩
  · rw [e2 8 rfl j hj]; exact a6 j hj
  · rw [e3 13 rfl p hp]
    rcases a7 p hp with q | ⟨m, h1, h2, h3⟩
    · exact Or.inl q
    · exact Or.inr ⟨m, h1, h2, by rw [e2 8 rfl m h1]; exact h3⟩
  · rw [e3 11 rfl p hp]; exact a8 p hp
  · rw [e3 12 rfl p hp]; exact a9 p hp
  · rw [e3 14 rfl p hp]; exact a10 p hp
  · rw [e3 10 rfl p hp]; exact a11 p hp
theorem like_eqT {mb pn : Nat} (hm : mb ≤ 6) (hp : pn ≤ 8) (T S : xT) : EqT mb pn (tLike T S) S := by
  refine ⟨fun k hk => ?_, fun c hc j hj => ?_, fun c hc j hj => ?_, fun j hj => ?_⟩
  · simp only [tLike, if_true]; rw [if_pos hk]
  · rcases bsM_cases hc with rfl | rfl | rfl <;> (simp only [tLike]; rw [if_neg (by decide), if_pos (by decide)]; exact if_pos (by omega))
  · rcases bsP_cases hc with rfl | rfl | rfl | rfl | rfl | rfl <;> (simp only [tLike]; rw [if_neg (by decide), if_neg (by decide), if_pos (by decide)]; exact if_pos (by omega))
  · simp only [tLike]; rw [if_neg (by decide), if_neg (by decide), if_pos (by decide)]; exact if_pos (by omega)
theorem tOK.like {mb pn : Nat} {S : xT} (hk : tOK mb pn S) (T : xT) : tOK mb pn (tLike T S) := (like_eqT hk.mb hk.pn T S).ok hk
theorem tOK.swAll {mb pn : Nat} {T : xT} (hk : tOK mb pn T) (bits : Int32) : ∀ n, n ≤ pn → tOK mb pn (tSwAll T bits n)
  | 0, _ => hk
  | n + 1, h => by
    rw [tSwAll]
    split
    · exact hk.swAll bits n (by omega)
    · exact (hk.swAll bits n (by omega)).swing (by omega)
