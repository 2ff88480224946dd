/-! the point of a piece that is neither gate nor latch is no matter -/
def PE (T U : xT) : Prop := (∀ c, c ≠ 10 → T c = U c) ∧ ∀ p, (T 9 p = nI 1 ∨ T 9 p = nI 2) → T 10 p = U 10 p
theorem PE.rf (T : xT) : PE T T := ⟨fun _ _ => rfl, fun _ _ => rfl⟩
theorem PE.up {T U : xT} (h : PE T U) {c : Nat} (h9 : c ≠ 9) (h10 : c ≠ 10) (f : Nat → Int32) : PE (va_up T c f) (va_up U c f) := by
  refine ⟨fun c' hc' => ?_, fun p hp => ?_⟩
  · by_cases e : c' = c
    · rw [e, va_up_eq, va_up_eq]
    · rw [va_up_no _ _ e, va_up_no _ _ e]; exact h.1 c' hc'
  · rw [va_up_no _ _ h9.symm] at hp
    rw [va_up_no _ _ h10.symm, va_up_no _ _ h10.symm]; exact h.2 p hp
theorem PE.send {T U : xT} (h : PE T U) (m to : Int32) : PE (tSend T m to) (tSend U m to) := by
  unfold tSend tTo
  rw [← h.1 0 (by decide), ← h.1 8 (by decide)]
  split
  · exact h
  · split
    · exact h
    · exact h.up (by decide) (by decide) _
theorem PE.cnt {T U : xT} (h : PE T U) (m p : Nat) : PE (tCnt T m p) (tCnt U m p) := by
  unfold tCnt
  rw [← h.1 14 (by decide)]
  have h1 := h.up (c := 14) (by decide) (by decide) (upd (T 14) p (if T 14 p + nI 1 < nI 999 then T 14 p + nI 1 else nI 999))
  rw [← h1.1 15 (by decide), ← h1.1 6 (by decide)]
  exact h1.up (by decide) (by decide) _
theorem PE.swing {T U : xT} (h : PE T U) {p : Nat} (hp : T 9 p = nI 1 ∨ T 9 p = nI 2) : PE (tSwing T p) (tSwing U p) := by
  unfold tSwing
  rw [← h.2 p hp]
  refine ⟨fun c hc => ?_, fun q hq => ?_⟩
  · rw [va_up_no _ _ hc, va_up_no _ _ hc]; exact h.1 c hc
  · rw [va_up_no _ _ (by decide)] at hq
    rw [va_up_eq, va_up_eq]
    by_cases e : q = p
    · rw [e, upd_eq, upd_eq]
    · rw [upd_no _ _ e, upd_no _ _ e]; exact h.2 q hq
theorem PE.lat {T U : xT} (h : PE T U) {p : Nat} (hp : T 9 p = nI 1 ∨ T 9 p = nI 2) : PE (tLat T p) (tLat U p) := by
  unfold tLat
  rw [← h.1 14 (by decide)]
  split
  · exact h.swing hp
  · exact h
theorem PE.l2 {T U : xT} (h : PE T U) (m p : Nat) : PE (tL2 T m p) (tL2 U m p) := by
  unfold tL2
  rw [← h.1 0 (by decide), ← h.1 9 (by decide), ← h.1 11 (by decide), ← h.1 12 (by decide), ← h.1 13 (by decide), ← h.1 6 (by decide), ← h.1 15 (by decide)]
  split
  · split
    · rename_i c
      have c' : T 9 p = nI 1 ∨ T 9 p = nI 2 := Or.inl c
      rw [← h.2 p c']
      split
      · exact (h.send _ _).swing (by rw [tSend_ne _ _ _ (by decide)]; exact c')
      · exact (h.send _ _).swing (by rw [tSend_ne _ _ _ (by decide)]; exact c')
    · split
      · rename_i c
        have c' : T 9 p = nI 1 ∨ T 9 p = nI 2 := Or.inr c
        rw [← h.2 p c']
        split
        · exact (h.send _ _).lat (by rw [tSend_ne _ _ _ (by decide)]; exact c')
        · exact (h.send _ _).lat (by rw [tSend_ne _ _ _ (by decide)]; exact c')
      · split
        · split
          · unfold tHold
            rw [← h.1 13 (by decide)]
            have h1 := h.up (c := 13) (by decide) (by decide) (upd (T 13) p (nI m))
            rw [← h1.1 8 (by decide)]
            exact h1.up (by decide) (by decide) _
          · unfold tRel tRel2 tRel3
            rw [← h.1 13 (by decide), ← h.1 11 (by decide)]
            have h1 := h.send (T 13 p) (T 11 p)
            rw [← h1.1 12 (by decide)]
            have h2 := h1.send (nI m) (tSend T (T 13 p) (T 11 p) 12 p)
            rw [← h2.1 13 (by decide)]
            exact h2.up (by decide) (by decide) _
        · split
          · split <;> exact h.send _ _
          · split <;> exact h.send _ _
  · exact h.send _ _
theorem PE.tin {T U : xT} (h : PE T U) : ∀ n, PE (tIn T n) (tIn U n)
  | 0 => h
  | n + 1 => by
    have ih := h.tin n
    rw [tIn, tIn]
    unfold tIn1
    rw [← ih.1 8 (by decide), ← ih.1 0 (by decide), ← ih.1 7 (by decide)]
    split
    · split
      · exact ih
      · exact ih.up (by decide) (by decide) _
    · exact ih
theorem PE.mov {T U : xT} (h : PE T U) : ∀ n, tMov T n = tMov U n
  | 0 => rfl
  | n + 1 => by rw [tMov, tMov, h.mov n, (h.tin (n + 1)).1 8 (by decide), (h.tin (n + 1)).1 0 (by decide)]
theorem PE.go {T U : xT} (h : PE T U) (mv : Int32) : ∀ n, PE (tGo mv T n) (tGo mv U n)
  | 0 => h
  | n + 1 => by
    have ih := h.go mv n
    rw [tGo, tGo]
    unfold tGo1
    split
    · exact ih
    · unfold tLeave
      rw [← ih.1 8 (by decide)]
      exact (ih.cnt _ _).l2 _ _
theorem PE.pass {T U : xT} (h : PE T U) (mb : Nat) : PE (tPass T mb) (tPass U mb) := by
  unfold tPass tTick
  rw [← h.mov mb]
  have h1 := (h.tin mb).go (tMov T mb) mb
  rw [← h1.1 0 (by decide)]
  exact h1.up (by decide) (by decide) _
theorem PE.ast {T U : xT} (h : PE T U) : ∀ n, tAst T n = tAst U n
  | 0 => rfl
  | n + 1 => by rw [tAst, tAst, h.ast n, h.1 8 (by decide)]
theorem PE.runOn {mb : Nat} : ∀ (n : Nat) {T U : xT}, PE T U → PE (tRunOn mb n T) (tRunOn mb n U)
  | 0, _, _, h => h
  | n + 1, T, U, h => by
    rw [tRunOn, tRunOn, ← h.ast mb]
    split
    · exact PE.runOn n (h.pass mb)
    · exact h
theorem PE.bits {T U : xT} (h : PE T U) (lo hi : Int32) : ∀ n, tBits T lo hi n = tBits U lo hi n
  | 0 => rfl
  | n + 1 => by rw [tBits, tBits, h.bits lo hi n, h.1 8 (by decide)]
