section BB
variable {bd : Nat} {Y : xY} {G : xG} {N : xM} {a b2 e l x y z v w : Int32}
theorem in1 {r : Nat} (h : r ≤ 1) : rIn (nI r) (nI 0) (nI 1) := ⟨nI_pos (by omega), fun q => absurd ((nI_ltI (by omega) (by omega)).mp q) (by omega)⟩
theorem iO_eq {S S2 : xT} {k : Nat} (h : ∀ q, 78 * k ≤ q → q < 78 * k + 78 → S2 16 q = S 16 q) : oEq (iO S2 k) (iO S k) := by
  refine ⟨?_, ?_, ?_, rfl⟩
  · show S2 16 (78 * k) = S 16 (78 * k)
    exact h _ (by omega) (by omega)
  · show S2 16 (78 * k + 1) = S 16 (78 * k + 1)
    exact h _ (by omega) (by omega)
  · show S2 16 (78 * k + 2) = S 16 (78 * k + 2)
    exact h _ (by omega) (by omega)
theorem RImg.cg2 {T S S2 : xT} {k : Nat} (h : RImg bd T S k) (h1 : ∀ q, 78 * k ≤ q → q < 78 * k + 78 → S2 16 q = S 16 q) (h2 : S2 17 k = S 17 k) : RImg bd T S2 k := by
  rcases h with ⟨a, b⟩ | ⟨a, mb, pn, L⟩
  · exact Or.inl ⟨h2.trans a, b⟩
  · exact Or.inr ⟨fun q => a (h2.symm.trans q), mb, pn, ((L.oeq (iO_eq h1)).so (fun p hp => h1 _ (by omega) (by omega))).ag (fun j hj => h1 _ (by omega) (by omega))⟩
theorem b_image (h : Rl bd Y G N (N 40)) : Both bd 16 cX6_image 2 [some (xR 0 0), some (xI a)] cX7_image 3 [some (xR 40 0), some (xI a), none] Y G N := by
  obtain ⟨mb, pn, hrun, nx, mn, b1, b2, b3, b4, b5, b6⟩ := h.2.2.2.2.2.2
  have hA : RA bd N (N 40) mb pn nx mn := ⟨b1, b2, b3, b4, b5, b6⟩
  refine kX6_image (d := 14) h.1 rfl hrun.c (fun c => ⟨rfl, ?_⟩) (fun c c2 => ⟨rfl, ?_⟩) (fun k ha hk c2 => ⟨rfl, ?_⟩)
  · exact V_in1 40 (kX7_image (d := 15) h.1.mo hrun.r (fun _ => ⟨rfl, rfl, ⟨_, rfl⟩, h.stay (cStay.rf _) (rKeep.rf _)⟩) (fun q => absurd q c) (fun k ha hk => absurd (ha ▸ in1 hk) c))
  · exact V_in1 40 (kX7_image (d := 15) h.1.mo hrun.r (fun q => absurd c q) (fun _ _ => ⟨rfl, rfl, ⟨_, rfl⟩, h.stay (cStay.rf _) (rKeep.rf _)⟩) (fun k ha hk q => absurd c2 q))
  · have L := hrun.z c2
    have e40 : va_up N (33 + k) (tLike (N (33 + k)) (N 3)) 40 = N 40 := va_up_no _ _ (by omega)
    refine V_in1 40 ?_
    rw [e40]
    refine kX7_image (d := 15) h.1.mo hrun.r (fun q => absurd (ha ▸ in1 hk) q) (fun _ q => absurd q c2) (fun k' ha' hk' _ S2 s17 s7 s8 s9 s11 s13 s16 sc => ?_)
    have e_k : k' = k := nI_inj (by omega) (by omega) (ha'.symm.trans ha)
    subst e_k
    refine ⟨rfl, rfl, ⟨_, rfl⟩, ?_⟩
    have hC : ∀ r, r ≠ 33 + k' → va_up N (33 + k') (tLike (N (33 + k')) (N 3)) r = N r := fun r hr => va_up_no _ _ hr
    have ho : oEq (S2 0) (N 40 0) := by rw [sc 0 (by decide) (by decide)]; exact ⟨rfl, rfl, rfl, rfl⟩
    obtain ⟨a1, a2, a3, a4, a5, a6⟩ := h.toZ
    refine Rz.toL (mb := mb) (pn := pn) (nx := nx) (mn := mn) ⟨a1, ?_, ?_, ?_, ?_, fun i hi => ?_⟩ ?_ ?_
    · rw [hC 1 (by omega)]; exact a2.cg (sc 1 (by decide) (by decide)) (sc 2 (by decide) (by decide)) (sc 3 (by decide) (by decide))
    · rw [hC 2 (by omega)]; exact a3.cg (by rw [sc 0 (by decide) (by decide)]) (sc 5 (by decide) (by decide))
    · rw [hC 0 (by omega), sc 0 (by decide) (by decide)]; exact a4
    · rw [hC 32 (by omega)]; exact a5.cg (by rw [sc 0 (by decide) (by decide)]) (sc 20 (by decide) (by decide))
    · by_cases e : i = k'
      · subst e
        rw [va_up_eq]
        refine Or.inr ⟨by rw [s17, upd_eq]; decide, mb, pn, ?_⟩
        refine (((L.like _).oeq ?_).so (fun p hp => s11 p hp)).ag (fun j hj => s13 j hj)
        exact ⟨s7, s8, s9, L.2.2.1.symm⟩
      · rw [hC (33 + i) (by omega)]
        exact (a6 i hi).cg2 (fun q h1 h2 => s16 q (by omega)) (by rw [s17, upd_no _ _ e])
    · rw [hC 3 (by omega), sc 11 (by decide) (by decide), sc 13 (by decide) (by decide)]
      exact hrun.oeq ho
    · refine ⟨b1, b2, by rw [hC 5 (by omega)]; exact b3, by rw [hC 5 (by omega)]; exact b4, by rw [sc 0 (by decide) (by decide)]; exact b5, fun i hi => ?_⟩
      rw [hC _ (by omega), sc 0 (by decide) (by decide), sc 11 (by decide) (by decide), sc 14 (by decide) (by decide)]
      exact b6 i hi
theorem b_restore (h : Rl bd Y G N (N 40)) : Both bd 16 cX6_restore 2 [some (xR 0 0), some (xI a)] cX7_restore 3 [some (xR 40 0), some (xI a), none] Y G N := by
  obtain ⟨mb, pn, hrun, nx, mn, b1, b2, b3, b4, b5, b6⟩ := h.2.2.2.2.2.2
  have hA : RA bd N (N 40) mb pn nx mn := ⟨b1, b2, b3, b4, b5, b6⟩
  have hz : ∀ k, k ≤ 1 → (N (33 + k) 0 3 = 0 ↔ N 40 17 k = 0) := by
    intro k hk
    rcases h.2.2.2.2.2.1 k (by omega) with ⟨q1, q2⟩ | ⟨q1, mb, pn, L⟩
    · exact ⟨fun _ => q1, fun _ => q2⟩
    · refine ⟨fun q => ?_, fun q => absurd q q1⟩
      exfalso
      rw [L.ok.e3] at q
      have := L.ok.2.1
      have := L.b8
      have : pn = 0 := nI_inj (by omega) (by decide) (show nI pn = nI 0 from q)
      omega
  have ho11 : N 40 0 11 = 0 := by
    rcases hrun with hr0 | L
    · exact hr0.2.2.2.2.2.2.2
    · exact L.2.2.1
  refine kX6_restore (d := 14) h.1 (fun c => ⟨rfl, ?_⟩) (fun k ha hk c2 => ⟨rfl, ?_⟩) (fun k ha hk c2 => ⟨rfl, ?_⟩)
  · exact V_in1 40 (kX7_restore (d := 15) h.1.mo (fun _ => ⟨rfl, rfl, ⟨_, rfl⟩, h.stay (cStay.rf _) (rKeep.rf _)⟩) (fun k ha hk => absurd (ha ▸ in1 hk) c) (fun k ha hk => absurd (ha ▸ in1 hk) c))
  · refine V_in1 40 (kX7_restore (d := 15) h.1.mo (fun q => absurd (ha ▸ in1 hk) q) (fun _ _ _ _ => ⟨rfl, rfl, ⟨_, rfl⟩, h.stay (cStay.rf _) (rKeep.rf _)⟩) (fun k' ha' hk' q => ?_))
    have e_k : k' = k := nI_inj (by omega) (by omega) (ha'.symm.trans ha)
    subst e_k
    exact absurd ((hz k' hk).mp c2) q
  · have e40 : va_up (va_up N 3 (tLike (N 3) (N (33 + k)))) 5 (va_up (N 5) 0 (upd (N 5 0) 2 (nI 0))) 40 = N 40 := by rw [va_up_no _ _ (by decide), va_up_no _ _ (by decide)]
    refine V_in1 40 ?_
    rw [e40]
    refine kX7_restore (d := 15) h.1.mo (fun q => absurd (ha ▸ in1 hk) q) (fun k' ha' hk' q => ?_) (fun k' ha' hk' q S2 s0 s11 s13 sc => ?_)
    · have e_k : k' = k := nI_inj (by omega) (by omega) (ha'.symm.trans ha)
      subst e_k
      exact absurd ((hz k' hk).mpr q) c2
    · have e_k : k' = k := nI_inj (by omega) (by omega) (ha'.symm.trans ha)
      subst e_k
      refine ⟨rfl, rfl, ⟨_, rfl⟩, ?_⟩
      have hk2 : ∀ q, q ≠ 7 → q ≠ 8 → q ≠ 9 → q ≠ 14 → S2 0 q = N 40 0 q := fun q h7 h8 h9 h14 => by rw [s0, upd_no _ _ h14, upd_no _ _ h9, upd_no _ _ h8, upd_no _ _ h7]
      rcases h.2.2.2.2.2.1 k' (by omega) with ⟨q1, q2⟩ | ⟨q1, mb', pn', L⟩
      · exact absurd q1 q
      refine Rz.toL (mb := mb') (pn := pn') (nx := nx) (mn := 0) (h.toZ.cg (fun r hr => by rw [va_up_no _ _ (by omega), va_up_no _ _ (by omega)]) (fun c hc => sc c (by omega) (by omega) (by omega)) (fun k hk3 => hk2 k (by omega) (by omega) (by omega) (by omega))) ?_ ?_
      · rw [va_up_no _ _ (by decide), va_up_eq]
        refine Or.inr ((((L.like _).oeq ?_).so (fun p hp => s11 p hp)).ag (fun j hj => s13 j hj))
        refine ⟨?_, ?_, ?_, ?_⟩
        · rw [s0, upd_no _ _ (by decide), upd_no _ _ (by decide), upd_no _ _ (by decide), upd_eq]; rfl
        · rw [s0, upd_no _ _ (by decide), upd_no _ _ (by decide), upd_eq]; rfl
        · rw [s0, upd_no _ _ (by decide), upd_eq]; rfl
        · rw [hk2 11 (by decide) (by decide) (by decide) (by decide), ho11]; rfl
      · refine ⟨b1, by omega, ?_, ?_, by rw [s0, upd_eq]; rfl, fun i hi => absurd hi (by omega)⟩
        · rw [va_up_eq, va_up_eq, upd_no _ _ (by decide)]; exact b3
        · rw [va_up_eq, va_up_eq, upd_eq]
end BB
