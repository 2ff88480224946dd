theorem swing_at (T : xT) (p j : Nat) : tSwing T p 8 j = T 8 j := by rw [tSwing_ne _ _ (by decide)]
theorem gate_sim {mb pn : Nat} {T : xT} {o so f : Nat → Int32} (h : Sim mb pn T o so f) (hk : tOK mb pn T) {m p q : Nat} (hm : m < mb) (hp : p < pn) (hq : q ≤ 9) (hn : ∀ p, p < pn → ¬ T 13 p = nI m) : Sim mb pn (tSwing (tSend T (nI m) (nI q)) p) o so (upd (upd f (1 + p) (nI 1 - f (1 + p))) (49 + m) (rTo o (nI q))) ∧ tOK mb pn (tSwing (tSend T (nI m) (nI q)) p) ∧ ∀ j, j ≠ m → tSwing (tSend T (nI m) (nI q)) p 8 j = T 8 j := by
  obtain ⟨s1, k1, e1, -⟩ := send_sim h hk hm hq hn
  have hpn := hk.pn
  have s2 := s1.swing k1 hp
  rw [upd_no _ _ (by omega), upd_swap _ (by omega)] at s2
  exact ⟨s2, k1.swing hp, fun j hj => by rw [swing_at, e1 j hj]⟩
set_option maxHeartbeats 1000000 in
theorem L2_sim {mb pn : Nat} {T : xT} {o so f : Nat → Int32} (h : Sim mb pn T o so f) (hk : tOK mb pn T) {m p : Nat} (hm : m < mb) (hp : p < pn) (e : T 8 m = nI p) : Sim mb pn (tL2 T m p) o so (rL2 o so f m p) ∧ tOK mb pn (tL2 T m p) ∧ ∀ j q, j < mb → j ≠ m → T 8 j = nI q → q < 20 → tL2 T m p 8 j = nI q := by
  have hmb := hk.mb
  have hpn := hk.pn
  obtain ⟨ql, el, hl1, hl2⟩ := hk.le p hp
  obtain ⟨qr, er, hr1, hr2⟩ := hk.ri p hp
  have g0 : T 0 0 = o 7 := h.1.1
  have g4 : T 0 4 = o 11 := h.1.2.2.2.2.2.1
  have g9 : T 9 p = so p := h.1.2.2.2.2.2.2.1 p hp
  have g10 : T 10 p = f (1 + p) := h.1.p (c := 10) rfl hp
  have g11 : T 11 p = f (9 + p) := h.1.p (c := 11) rfl hp
  have g12 : T 12 p = f (17 + p) := h.1.p (c := 12) rfl hp
  have g13 : T 13 p = f (25 + p) := h.1.p (c := 13) rfl hp
  have g14 : T 14 p = f (33 + p) := h.1.p (c := 14) rfl hp
  have g15 : T 15 p = f (41 + p) := h.1.p (c := 15) rfl hp
  have g6 : T 6 m = f (55 + m) := h.1.m (c := 6) rfl hm
  have hn := hk.free hm e (show p < 20 by omega)
  obtain ⟨sl, kl, al, -⟩ := send_sim h hk hm hl2 hn
  obtain ⟨sr, kr, ar, -⟩ := send_sim h hk hm hr2 hn
  have fl : f (9 + p) = nI ql := g11.symm.trans el
  have fr : f (17 + p) = nI qr := g12.symm.trans er
  unfold tL2 rL2
  rw [g4, g9, el, er, ← g10, ← g13, ← g14, ← g15, ← g6, ← g0, fl]
  rcases and1 (o 11 >>> (nI p &&& 31)) with hj | hj
  · rw [if_pos hj, hj, if_neg (show ¬ (0 : Int32) = nI 1 by decide)]
    by_cases c1 : so p = nI (1 + 0)
    · rw [if_pos c1, if_pos c1]
      rcases hk.po p hp with hpo | hpo
      · have gs := gate_sim h hk hm hp hl2 hn
        rw [show f (1 + p) = nI 0 from g10.symm.trans hpo] at gs
        rw [hpo, if_pos (show nI 0 = (0 : Int32) by decide)]
        unfold rEnd
        rw [if_neg (show ¬ nI 0 = nI 1 by decide), upd_no _ _ (by omega), fl]
        exact ⟨gs.1, gs.2.1, fun j q _ hjm ej _ => by rw [gs.2.2 j hjm]; exact ej⟩
      · have gs := gate_sim h hk hm hp hr2 hn
        rw [show f (1 + p) = nI 1 from g10.symm.trans hpo] at gs
        rw [hpo, if_neg n10]
        unfold rEnd
        rw [if_pos rfl, upd_no _ _ (by omega), fr]
        exact ⟨gs.1, gs.2.1, fun j q _ hjm ej _ => by rw [gs.2.2 j hjm]; exact ej⟩
    rw [if_neg c1, if_neg c1]
    by_cases c2 : so p = nI (1 + 1)
    · rw [if_pos c2, if_pos c2]
      have w1 : tSend T (nI m) (nI ql) 14 p = T 14 p := by rw [tSend_ne _ _ _ (by decide)]
      have w2 : tSend T (nI m) (nI qr) 14 p = T 14 p := by rw [tSend_ne _ _ _ (by decide)]
      unfold tLat
      rw [w1, w2]
      by_cases c3 : T 14 p - T 14 p / nI 2 * nI 2 = 0
      · rw [if_pos c3, if_pos c3, if_pos c3]
        rcases hk.po p hp with hpo | hpo
        · have gs := gate_sim h hk hm hp hl2 hn
          rw [show f (1 + p) = nI 0 from g10.symm.trans hpo] at gs
          rw [hpo, if_pos (show nI 0 = (0 : Int32) by decide)]
          unfold rEnd
          rw [if_neg (show ¬ nI 0 = nI 1 by decide), upd_no _ _ (by omega), fl]
          exact ⟨gs.1, gs.2.1, fun j q _ hjm ej _ => by rw [gs.2.2 j hjm]; exact ej⟩
        · have gs := gate_sim h hk hm hp hr2 hn
          rw [show f (1 + p) = nI 1 from g10.symm.trans hpo] at gs
          rw [hpo, if_neg n10]
          unfold rEnd
          rw [if_pos rfl, upd_no _ _ (by omega), fr]
          exact ⟨gs.1, gs.2.1, fun j q _ hjm ej _ => by rw [gs.2.2 j hjm]; exact ej⟩
      · rw [if_neg c3, if_neg c3, if_neg c3, g10, upd_self, ← g10]
        rcases hk.po p hp with hpo | hpo
        · rw [hpo, if_pos (show nI 0 = (0 : Int32) by decide)]
          unfold rEnd
          rw [if_neg (show ¬ nI 0 = nI 1 by decide), fl]
          exact ⟨sl, kl, fun j q _ hjm ej _ => by rw [al j hjm]; exact ej⟩
        · rw [hpo, if_neg n10]
          unfold rEnd
          rw [if_pos rfl, fr]
          exact ⟨sr, kr, fun j q _ hjm ej _ => by rw [ar j hjm]; exact ej⟩
    rw [if_neg c2, if_neg c2]
    by_cases c3 : so p = nI (1 + 2)
    · rw [if_pos c3, if_pos c3]
      by_cases c4 : T 13 p = -1000000
      · rw [if_pos c4, if_pos c4]
        have s1 := h.put hmb hpn (c := 13) (k := p) (Or.inr ⟨rfl, hp⟩) (nI m)
        have s2 := s1.put hmb hpn (c := 8) (k := m) (Or.inl ⟨rfl, hm⟩) (nI (20 + p))
        refine ⟨s2, ?_, ?_⟩
        · obtain ⟨a1, a2, a3, a4, a5, a6, a7, a8, a9, a10, a11⟩ := hk
          refine ⟨a1, a2, a3, a4, a5, ?_, ?_, a8, a9, a10, a11⟩
          · intro j hjm
            unfold tHold
            rw [va_up_eq, va_up_no _ _ (by decide)]
            by_cases ej : j = m
            · subst ej; rw [upd_eq]; exact ⟨20 + p, rfl, by omega⟩
            · rw [upd_no _ _ ej]; exact a6 j hjm
          · intro p' hp'
            unfold tHold
            rw [va_up_no _ _ (by decide), va_up_eq, va_up_eq, va_up_no _ _ (by decide)]
            by_cases ep : p' = p
            · subst ep; rw [upd_eq]; exact Or.inr ⟨m, hm, rfl, by rw [upd_eq]⟩
            · rw [upd_no _ _ ep]
              rcases a7 p' hp' with e2 | ⟨m', h1, h2, h3⟩
              · exact Or.inl e2
              · refine Or.inr ⟨m', h1, h2, ?_⟩
                rw [upd_no _ _ (fun ee => hn p' hp' (by rw [h2, ee]))]
                exact h3
        · intro j q _ hjm ej _
          unfold tHold
          rw [va_up_eq, va_up_no _ _ (by decide), upd_no _ _ hjm]
          exact ej
      · rw [if_neg c4, if_neg c4]
        rcases hk.ho p hp with e2 | ⟨m2, hm2, e2, e3⟩
        · exact absurd e2 c4
        have hmm : m2 ≠ m := fun ee => hn p hp (by rw [e2, ee])
        unfold tRel tRel2 tRel3 rRel
        rw [e2, ← g13, e2, nI_clamp (by omega), el, fl]
        -- first the one that was held: its hold ends before it is placed, to keep what may stand
        have hn2 : ∀ p', p' < pn → ¬ (va_up T 13 (upd (T 13) p (-1000000))) 13 p' = nI m2 := by
          intro p' hp' ee
          rw [va_up_eq] at ee
          by_cases ep : p' = p
          · subst ep; rw [upd_eq] at ee; exact nI_ne_none (by omega) ee.symm
          · rw [upd_no _ _ ep] at ee
            rcases hk.ho p' hp' with e4 | ⟨m', h1, h2, h3⟩
            · rw [e4] at ee; exact nI_ne_none (by omega) ee.symm
            · rw [h2] at ee
              have := nI_inj (by omega) (by omega) ee
              subst this
              rw [e3] at h3
              have := nI_inj (by omega) (by omega) h3
              omega
        have s0 := h.put hmb hpn (c := 13) (k := p) (Or.inr ⟨rfl, hp⟩) (-1000000)
        have k0 : tOK mb pn (va_up T 13 (upd (T 13) p (-1000000))) := hk.unhold
        obtain ⟨s1, k1, a1, z1, hz1, ez1⟩ := send_sim s0 k0 hm2 hl2 hn2
        have hn3 : ∀ p', p' < pn → ¬ tSend (va_up T 13 (upd (T 13) p (-1000000))) (nI m2) (nI ql) 13 p' = nI m := by
          intro p' hp' ee
          rw [tSend_ne _ _ _ (by decide), va_up_eq] at ee
          by_cases ep : p' = p
          · subst ep; rw [upd_eq] at ee; exact nI_ne_none (by omega) ee.symm
          · rw [upd_no _ _ ep] at ee; exact hn p' hp' ee
        obtain ⟨s2, k2, a2, -⟩ := send_sim s1 k1 hm hr2 hn3
        -- the same track, written in the class's order
        have eT : va_up (tSend (tSend T (nI m2) (nI ql)) (nI m) (nI qr)) 13 (upd (tSend (tSend T (nI m2) (nI ql)) (nI m) (nI qr) 13) p (-1000000)) = tSend (tSend (va_up T 13 (upd (T 13) p (-1000000))) (nI m2) (nI ql)) (nI m) (nI qr) := by
          have b1 : ∀ (U : xT) (g : Nat → Int32) (mm to : Int32), tSend (va_up U 13 g) mm to = va_up (tSend U mm to) 13 g := by
            intro U g mm to
            unfold tSend tTo
            rw [va_up_no _ _ (show (0 : Nat) ≠ 13 by decide), va_up_no _ _ (show (8 : Nat) ≠ 13 by decide)]
            split
            · rfl
            · split
              · rfl
              · funext c
                by_cases hc8 : c = 8
                · subst hc8; rw [va_up_eq, va_up_no _ _ (by decide), va_up_eq]
                · rw [va_up_no _ _ hc8]
                  by_cases hc13 : c = 13
                  · subst hc13; rw [va_up_eq, va_up_eq]
                  · rw [va_up_no _ _ hc13, va_up_no _ _ hc13, va_up_no _ _ hc8]
          rw [b1, b1, tSend_ne _ _ _ (by decide), tSend_ne _ _ _ (by decide)]
        have e12 : tSend T (nI m2) (nI ql) 12 p = nI qr := by rw [tSend_ne _ _ _ (by decide)]; exact er
        rw [e12, eT]
        unfold rEnd
        rw [if_pos rfl, upd_no _ _ (by omega), upd_no _ _ (by omega), fr, upd_swap f (show 49 + m2 ≠ 25 + p by omega)]
        refine ⟨s2, k2, fun j q hjm hj ej hq => ?_⟩
        have hj2 : j ≠ m2 := by
          rintro rfl
          rw [e3] at ej
          have := nI_inj (by omega) (by omega) ej
          omega
        rw [a2 j hj, a1 j hj2, va_up_no _ _ (by decide)]
        exact ej
    rw [if_neg c3, if_neg c3]
    by_cases c4 : so p = nI (1 + 3)
    · rw [if_pos c4, if_pos c4]
      unfold rEnd
      by_cases c5 : T 6 m < T 0 0
      · rw [if_pos c5, if_pos c5, if_neg (show ¬ nI 0 = nI 1 by decide), fl]
        exact ⟨sl, kl, fun j q _ hjm ej _ => by rw [al j hjm]; exact ej⟩
      · rw [if_neg c5, if_neg c5, if_pos rfl, fr]
        exact ⟨sr, kr, fun j q _ hjm ej _ => by rw [ar j hjm]; exact ej⟩
    rw [if_neg c4, if_neg c4]
    unfold rEnd
    by_cases c5 : T 15 p - T 15 p / nI 2 * nI 2 = 0
    · rw [if_pos c5, if_pos c5, if_pos rfl, fr]
      exact ⟨sr, kr, fun j q _ hjm ej _ => by rw [ar j hjm]; exact ej⟩
    · rw [if_neg c5, if_neg c5, if_neg (show ¬ nI 0 = nI 1 by decide), fl]
      exact ⟨sl, kl, fun j q _ hjm ej _ => by rw [al j hjm]; exact ej⟩
  · rw [hj, if_neg n10, if_pos rfl]
    exact ⟨sl, kl, fun j q _ hjm ej _ => by rw [al j hjm]; exact ej⟩
theorem leave_sim {mb pn : Nat} {T : xT} {o so f : Nat → Int32} (h : Sim mb pn T o so f) (hk : tOK mb pn T) {m p : Nat} (hm : m < mb) (hp : p < pn) (e : T 8 m = nI p) : Sim mb pn (tLeave T m p) o so (rLeave o so f m) ∧ tOK mb pn (tLeave T m p) ∧ ∀ j q, j < mb → j ≠ m → T 8 j = nI q → q < 20 → tLeave T m p 8 j = nI q := by
  have hpn := hk.pn
  obtain ⟨s1, k1⟩ := cnt_sim h hk hm hp
  have e8 : ∀ j, tCnt T m p 8 j = T 8 j := fun j => by rw [tCnt_ne _ _ _ (by decide) (by decide)]
  obtain ⟨s2, k2, a2⟩ := L2_sim s1 k1 hm hp (by rw [e8]; exact e)
  have ef : f (49 + m) = nI p := (h.1.m (c := 8) rfl hm).symm.trans e
  unfold tLeave rLeave
  rw [ef, nI_clamp (by omega)]
  exact ⟨s2, k2, fun j q h1 h2 h3 h4 => a2 j q h1 h2 (by rw [e8]; exact h3) h4⟩
