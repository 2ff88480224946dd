/-! WEIGHTS THAT ARE ALIKE BY THE BAR AND BY EVEN OR ODD send all the same ways, while no burden is full -/
def AE (mb pn : Nat) (T U : xT) : Prop := (∀ c, c ≠ 6 → c ≠ 15 → T c = U c) ∧ (∀ m, m < mb → (T 6 m < T 0 0 ↔ U 6 m < T 0 0) ∧ ∃ a b, a ≤ 9 ∧ b ≤ 9 ∧ T 6 m = nI a ∧ U 6 m = nI b ∧ a % 2 = b % 2) ∧ ∀ p, p < pn → ∃ a b, a ≤ 9999 ∧ b ≤ 9999 ∧ T 15 p = nI a ∧ U 15 p = nI b ∧ a % 2 = b % 2
theorem AE.up {mb pn : Nat} {T U : xT} (h : AE mb pn T U) {c : Nat} (h0 : c ≠ 0) (h6 : c ≠ 6) (h15 : c ≠ 15) (f : Nat → Int32) : AE mb pn (va_up T c f) (va_up U c f) := by
  refine ⟨fun c' h1 h2 => ?_, fun m hm => ?_, fun p hp => ?_⟩
  · by_cases e : c' = c
    · rw [e, va_up_eq, va_up_eq]
    · rw [va_up_no _ _ e, va_up_no _ _ e]; exact h.1 c' h1 h2
  · rw [va_up_no _ _ h6.symm, va_up_no _ _ h6.symm, va_up_no _ _ h0.symm]; exact h.2.1 m hm
  · rw [va_up_no _ _ h15.symm, va_up_no _ _ h15.symm]; exact h.2.2 p hp
theorem AE.send {mb pn : Nat} {T U : xT} (h : AE mb pn T U) (m to : Int32) : AE mb pn (tSend T m to) (tSend U m to) := by
  unfold tSend tTo
  rw [← h.1 0 (by decide) (by decide), ← h.1 8 (by decide) (by decide)]
  split
  · exact h
  · split
    · exact h
    · exact h.up (by decide) (by decide) (by decide) _
theorem AE.swing {mb pn : Nat} {T U : xT} (h : AE mb pn T U) (p : Nat) : AE mb pn (tSwing T p) (tSwing U p) := by
  unfold tSwing
  rw [← h.1 10 (by decide) (by decide)]
  exact h.up (by decide) (by decide) (by decide) _
theorem AE.lat {mb pn : Nat} {T U : xT} (h : AE mb pn T U) (p : Nat) : AE mb pn (tLat T p) (tLat U p) := by
  unfold tLat
  rw [← h.1 14 (by decide) (by decide)]
  split
  · exact h.swing p
  · exact h
theorem AE.l2 {mb pn : Nat} {T U : xT} (h : AE mb pn T U) {m p : Nat} (hm : m < mb) (hp : p < pn) : AE mb pn (tL2 T m p) (tL2 U m p) := by
  have hs := (h.2.1 m hm).1
  have hb : (T 15 p - T 15 p / nI 2 * nI 2 = 0) ↔ (U 15 p - U 15 p / nI 2 * nI 2 = 0) := by
    obtain ⟨a, b, a1, b1, ea, eb, eq⟩ := h.2.2 p hp
    rw [ea, eb, pk_rem (by omega) (by decide) (by decide), pk_rem (by omega) (by decide) (by decide), eq]
  unfold tL2
  rw [← h.1 0 (by decide) (by decide), ← h.1 9 (by decide) (by decide), ← h.1 10 (by decide) (by decide), ← h.1 11 (by decide) (by decide), ← h.1 12 (by decide) (by decide), ← h.1 13 (by decide) (by decide)]
  split
  · split
    · split
      · exact (h.send _ _).swing p
      · exact (h.send _ _).swing p
    · split
      · split
        · exact (h.send _ _).lat p
        · exact (h.send _ _).lat p
      · split
        · split
          · unfold tHold
            rw [← h.1 13 (by decide) (by decide)]
            have h1 := h.up (c := 13) (by decide) (by decide) (by decide) (upd (T 13) p (nI m))
            rw [← h1.1 8 (by decide) (by decide)]
            exact h1.up (by decide) (by decide) (by decide) _
          · unfold tRel tRel2 tRel3
            rw [← h.1 13 (by decide) (by decide), ← h.1 11 (by decide) (by decide)]
            have h1 := h.send (T 13 p) (T 11 p)
            rw [← h1.1 12 (by decide) (by decide)]
            have h2 := h1.send (nI m) (tSend T (T 13 p) (T 11 p) 12 p)
            rw [← h2.1 13 (by decide) (by decide)]
            exact h2.up (by decide) (by decide) (by decide) _
        · split
          · by_cases c : T 6 m < T 0 0
            · rw [if_pos c, if_pos (hs.mp c)]; exact h.send _ _
            · rw [if_neg c, if_neg (fun q => c (hs.mpr q))]; exact h.send _ _
          · by_cases c : T 15 p - T 15 p / nI 2 * nI 2 = 0
            · rw [if_pos c, if_pos (hb.mp c)]; exact h.send _ _
            · rw [if_neg c, if_neg (fun q => c (hb.mpr q))]; exact h.send _ _
  · exact h.send _ _
theorem AE.cnt {mb pn : Nat} {T U : xT} (h : AE mb pn T U) {m p k l : Nat} (hm : m < mb) (hk : T 15 p = nI k) (hk9 : k + 9 ≤ 9999) (hl : U 15 p = nI l) (hl9 : l + 9 ≤ 9999) : AE mb pn (tCnt T m p) (tCnt U m p) := by
  refine ⟨fun c h6 h15 => ?_, fun j hj => ?_, fun q hq => ?_⟩
  · by_cases e : c = 14
    · rw [e, cnt14, cnt14, ← h.1 14 (by decide) (by decide)]
    · rw [tCnt_k _ _ _ e h15, tCnt_k _ _ _ e h15]; exact h.1 c h6 h15
  · rw [tCnt_k _ _ _ (show (6 : Nat) ≠ 14 by decide) (by decide), tCnt_k _ _ _ (show (6 : Nat) ≠ 14 by decide) (by decide), tCnt_k _ _ _ (show (0 : Nat) ≠ 14 by decide) (by decide)]
    exact h.2.1 j hj
  · rw [cnt15, cnt15]
    by_cases e : q = p
    · subst e
      obtain ⟨-, a, b, a1, b1, ea, eb, eab⟩ := h.2.1 m hm
      obtain ⟨x, y, x1, y1, ex, ey, exy⟩ := h.2.2 q hq
      have hxk : x = k := nI_inj (by omega) (by omega) (ex.symm.trans hk)
      have hyl : y = l := nI_inj (by omega) (by omega) (ey.symm.trans hl)
      obtain ⟨z, z1, z2, z3, z4⟩ := burd x1 a1
      obtain ⟨u, u1, u2, u3, u4⟩ := burd y1 b1
      have hz := z3 (by omega)
      have hu := u3 (by omega)
      rw [upd_eq, upd_eq, ex, ey, ea, eb]
      exact ⟨z, u, z1, u1, z4, u4, by omega⟩
    · rw [upd_no _ _ e, upd_no _ _ e]
      exact h.2.2 q hq
theorem AE.tin {mb pn : Nat} {T U : xT} (h : AE mb pn T U) : ∀ n, AE mb pn (tIn T n) (tIn U n)
  | 0 => h
  | n + 1 => by
    have ih := h.tin n
    rw [tIn, tIn]
    unfold tIn1
    rw [← ih.1 8 (by decide) (by decide), ← ih.1 0 (by decide) (by decide), ← ih.1 7 (by decide) (by decide)]
    split
    · split
      · exact ih
      · exact ih.up (by decide) (by decide) (by decide) _
    · exact ih
theorem AE.mov {mb pn : Nat} {T U : xT} (h : AE mb pn T U) : ∀ n, tMov T n = tMov U n
  | 0 => rfl
  | n + 1 => by rw [tMov, tMov, h.mov n, (h.tin (n + 1)).1 8 (by decide) (by decide), (h.tin (n + 1)).1 0 (by decide) (by decide)]
def AL (bd mb pn : Nat) (T U : xT) : Prop := AE mb pn T U ∧ tOK mb pn T ∧ tOK mb pn U ∧ W9 mb T ∧ W9 mb U ∧ Pot bd mb pn T ∧ Pot bd mb pn U
/-- over a piece on which one stands nine more can go -/
theorem Pot.at {bd mb pn : Nat} {T : xT} (h : Pot bd mb pn T) (hb : bd ≤ 9999) {m p : Nat} (hm : m < mb) (hp : p < pn) (hp8 : pn ≤ 8) (e : T 8 m = nI p) : ∃ k, T 15 p = nI k ∧ k + 9 ≤ 9999 := by
  obtain ⟨k, h1, h2, h3⟩ := h p hp
  have := cntB_pos (f := T 8) (p := p) mb hm (by
    rw [e, lev_nI (by omega), if_neg (by omega), if_pos (by omega)]
    exact Nat.le_refl _)
  exact ⟨k, h2, by omega⟩
theorem AL.go {bd mb pn : Nat} {T U : xT} (h : AL bd mb pn T U) (hb : bd ≤ 9999) : ∀ i, i ≤ mb → AE mb pn (tGo (tMov T mb) (tIn T mb) i) (tGo (tMov T mb) (tIn U mb) i)
  | 0, _ => h.1.tin mb
  | i + 1, hi => by
    obtain ⟨hae, kT, kU, wT, wU, pT, pU⟩ := h
    have ih := AL.go ⟨hae, kT, kU, wT, wU, pT, pU⟩ hb i (by omega)
    have hpn := kT.pn
    rw [tGo, tGo]
    unfold tGo1
    split
    · exact ih
    · rename_i c
      obtain ⟨p, hp, ep⟩ := go_at kT (show i < mb by omega) c
      have ep2 : tGo (tMov T mb) (tIn U mb) i 8 i = nI p := by rw [← ih.1 8 (by decide) (by decide)]; exact ep
      rw [ep, ep2, nI_clamp (by omega)]
      obtain ⟨k, k1, k2⟩ := (go_pot kT wT pT i (by omega)).at hb (show i < mb by omega) hp hpn ep
      have gU := go_pot kU wU pU i (by omega)
      rw [← hae.mov mb] at gU
      obtain ⟨l, l1, l2⟩ := gU.at hb (show i < mb by omega) hp hpn ep2
      unfold tLeave
      exact (ih.cnt (by omega) k1 k2 l1 l2).l2 (by omega) hp
theorem AL.pass {bd mb pn : Nat} {T U : xT} (h : AL bd mb pn T U) (hb : bd ≤ 9999) : AL bd mb pn (tPass T mb) (tPass U mb) := by
  have hg := h.go hb mb (Nat.le_refl _)
  obtain ⟨hae, kT, kU, wT, wU, pT, pU⟩ := h
  refine ⟨?_, kT.pass, kU.pass, wT.cg (tPass_k T mb (by decide) (by decide) (by decide) (by decide) (by decide) (by decide)), wU.cg (tPass_k U mb (by decide) (by decide) (by decide) (by decide) (by decide) (by decide)), pass_pot kT wT pT, pass_pot kU wU pU⟩
  unfold tPass tTick
  rw [← hae.mov mb]
  refine ⟨fun c h6 h15 => ?_, fun m hm => ?_, fun p hp => ?_⟩
  · by_cases e : c = 0
    · rw [e, va_up_eq, va_up_eq, ← hg.1 0 (by decide) (by decide)]
    · rw [va_up_no _ _ e, va_up_no _ _ e]; exact hg.1 c h6 h15
  · rw [va_up_no _ _ (show (6 : Nat) ≠ 0 by decide), va_up_no _ _ (show (6 : Nat) ≠ 0 by decide), va_up_eq, upd_no _ _ (by decide)]
    exact hg.2.1 m hm
  · rw [va_up_no _ _ (show (15 : Nat) ≠ 0 by decide), va_up_no _ _ (show (15 : Nat) ≠ 0 by decide)]
    exact hg.2.2 p hp
theorem AE.ast {mb pn : Nat} {T U : xT} (h : AE mb pn T U) : ∀ n, tAst T n = tAst U n
  | 0 => rfl
  | n + 1 => by rw [tAst, tAst, h.ast n, h.1 8 (by decide) (by decide)]
theorem AL.runOn {bd mb pn : Nat} (hb : bd ≤ 9999) : ∀ (n : Nat) {T U : xT}, AL bd mb pn T U → AL bd mb pn (tRunOn mb n T) (tRunOn mb n U)
  | 0, _, _, h => h
  | n + 1, T, U, h => by
    rw [tRunOn, tRunOn, ← h.1.ast mb]
    split
    · exact AL.runOn hb n (h.pass hb)
    · exact h
theorem AE.bits {mb pn : Nat} {T U : xT} (h : AE mb pn T U) (lo hi : Int32) : ∀ n, tBits T lo hi n = tBits U lo hi n
  | 0 => rfl
  | n + 1 => by rw [tBits, tBits, h.bits lo hi n, h.1 8 (by decide) (by decide)]
/-- orders that are alike have the same in the trays -/
theorem way_key {bd mb pn : Nat} {S : xT} (hb : bd ≤ 9999) (hk : tOK mb pn S) (hW : W9 mb S) (h : Pot bd mb pn S) {π π' : Nat → Nat} (hπ : ∀ j, j < mb → π j < mb) (hπ' : ∀ j, j < mb → π' j < mb) (e : wayN (S 0 0) (S 6) π mb = wayN (S 0 0) (S 6) π' mb) (n : Nat) (lo hi : Int32) : tBits (tRunOn mb n (tReW π (S 6) S mb)) lo hi mb = tBits (tRunOn mb n (tReW π' (S 6) S mb)) lo hi mb := by
  have e6 : ∀ (ρ : Nat → Nat) j, j < mb → tReW ρ (S 6) S mb 6 j = S 6 (ρ j) := fun ρ j hj => tReW_at ρ (S 6) S mb hj
  have w9 : ∀ ρ : Nat → Nat, (∀ j, j < mb → ρ j < mb) → W9 mb (tReW ρ (S 6) S mb) := fun ρ hρ j hj => by
    rw [e6 ρ j hj]
    exact hW _ (hρ j hj)
  have p9 : ∀ ρ : Nat → Nat, Pot bd mb pn (tReW ρ (S 6) S mb) := fun ρ => h.cg (tReW_no _ _ _ (by decide) mb) (tReW_no _ _ _ (by decide) mb)
  refine (AL.runOn hb n ⟨⟨fun c h6 _ => ?_, fun m hm => ?_, fun p hp => ?_⟩, hk.reW _ _ mb, hk.reW _ _ mb, w9 π hπ, w9 π' hπ', p9 π, p9 π'⟩).1.bits lo hi mb
  · rw [tReW_no _ _ _ h6, tReW_no _ _ _ h6]
  · obtain ⟨k1, k2⟩ := wayN_inj e m hm
    obtain ⟨a, -, a1, ea⟩ := hW _ (hπ m hm)
    obtain ⟨b, -, b1, eb⟩ := hW _ (hπ' m hm)
    rw [e6 π m hm, e6 π' m hm, tReW_no _ _ _ (show (0 : Nat) ≠ 6 by decide)]
    refine ⟨k1, a, b, a1, b1, ea, eb, ?_⟩
    rw [ea, eb, nI_clamp (by omega), nI_clamp (by omega)] at k2
    exact k2
  · obtain ⟨k, h1, h2, -⟩ := h p hp
    rw [tReW_no _ _ _ (show (15 : Nat) ≠ 6 by decide), tReW_no _ _ _ (show (15 : Nat) ≠ 6 by decide)]
    exact ⟨k, k, h1, h1, h2, h2, rfl⟩
