section BB
variable {bd : Nat} {Y : xY} {G : xG} {N : xM} {a b2 e l x y z v w : Int32}
theorem RRow.sz {R S : xT} (h : RRow R S) : szOK (R 3) := fun r hr => by rw [h.2.1 r hr]; exact h.1 r hr
theorem RRow.neg {R S : xT} (h : RRow R S) {r : Nat} (hr : r < 8) : R 3 r = -1 ↔ S 2 r < 0 := by
  rw [h.2.1 r hr]
  rcases h.1 r hr with q | ⟨k, hk, q⟩
  · rw [q]; decide
  · rw [q]
    have h1 := nI_pos (n := k) (by omega)
    constructor
    · intro e; rw [e] at h1; exact absurd (by decide) h1
    · intro e; exact absurd e h1
theorem RRow.has {R S : xT} (h : RRow R S) {r : Nat} (hr : r < 8) (h0 : ¬ R 3 r = -1) (i n : Int32) : cHas R r i n ↔ rPart i n (S 2 r) := by
  constructor
  · intro hc
    obtain ⟨j, m, len, rfl, rfl, e, h1, h2⟩ := has_nat2 h.sz hr h0 hc
    rw [← h.2.1 r hr, e]
    refine ⟨nI_pos (by omega), nI_pos (by omega), fun q => absurd ((nI_ltI (by omega) (by omega)).mp q) (by omega), ?_⟩
    rw [pk_sub (by omega)]
    exact fun q => absurd ((nI_ltI (by omega) (by omega)).mp q) (by omega)
  · intro hp
    exact ⟨hp.1, hp.2.1, by rw [h.2.1 r hr]; exact hp.2.2.2⟩
theorem RRow.fq {R S : xT} (h : RRow R S) {r : Nat} (hr : r < 8) (x z : Int32) : cFnd R (nI r) x z = fnd (S 2) (nI r) x z := by
  unfold cFnd fnd
  rw [nI_clamp (by omega)]
  by_cases c : R 3 r = -1
  · rw [if_pos c, if_pos ((h.neg hr).mp c)]
  · rw [if_neg c, if_neg (fun q => c ((h.neg hr).mpr q))]
    by_cases c2 : cHas R r x z
    · rw [if_pos c2, if_pos ((h.has hr c x z).mp c2)]
    · rw [if_neg c2, if_neg (fun q => c2 ((h.has hr c x z).mpr q))]
theorem RRow.pl {R S : xT} (h : RRow R S) {r : Nat} (hr : r < 8) {x z : Int32} (hf : fnd (S 2) (nI r) x z = 0) : ∃ j m len, x = nI j ∧ z = nI m ∧ R 3 r = nI len ∧ j + m ≤ len ∧ len ≤ 40 := by
  rw [← h.fq hr] at hf
  unfold cFnd at hf
  rw [nI_clamp (by omega)] at hf
  by_cases c : R 3 r = -1
  · rw [if_pos c] at hf; exact absurd hf (by decide)
  · rw [if_neg c] at hf
    by_cases c2 : cHas R r x z
    · exact has_nat2 h.sz hr c c2
    · rw [if_neg c2] at hf; exact absurd hf (by decide)
theorem fitS_cg {p q : Nat → Bool} (lo : Nat) : ∀ n, (∀ i, i < n → p (lo + i) = q (lo + i)) → fitS p lo n = fitS q lo n
  | 0, _ => rfl
  | n + 1, h => by rw [fitS, fitS, fitS_cg lo n (fun i hi => h i (by omega)), h n (by omega)]
theorem b_who (h : Rl bd Y G N (N 40)) : Both bd 16 cX6_who 7 [some (xR 0 0), some (xI a), some (xI y), some (xI w), some (xI x), some (xI z), none] cX7_who 10 [some (xR 40 0), some (xI a), some (xI y), some (xI w), some (xI x), some (xI z), none, none, none, none] Y G N := by
  obtain ⟨mb, pn, hrun, hact⟩ := h.2.2.2.2.2.2
  have hrow := h.2.1
  refine kX6_who (d := 10) h.1 rfl hrun.c hrow.sz (v := (if y = 0 then fitS (fun k => if y = 0 then cFit mb (N 1 (10 + w.toNatClampNeg)) z.toNatClampNeg x.toNatClampNeg (tPut (N 3) 9 a.toNatClampNeg (nI k)) else cFit mb (N 1 (10 + w.toNatClampNeg)) z.toNatClampNeg x.toNatClampNeg (tPut (N 3) 10 a.toNatClampNeg (nI k))) 1 5 else fitS (fun k => if y = 0 then cFit mb (N 1 (10 + w.toNatClampNeg)) z.toNatClampNeg x.toNatClampNeg (tPut (N 3) 9 a.toNatClampNeg (nI k)) else cFit mb (N 1 (10 + w.toNatClampNeg)) z.toNatClampNeg x.toNatClampNeg (tPut (N 3) 10 a.toNatClampNeg (nI k))) 0 2)) (pv := (fun k => if y = 0 then cFit mb (N 1 (10 + w.toNatClampNeg)) z.toNatClampNeg x.toNatClampNeg (tPut (N 3) 9 a.toNatClampNeg (nI k)) else cFit mb (N 1 (10 + w.toNatClampNeg)) z.toNatClampNeg x.toNatClampNeg (tPut (N 3) 10 a.toNatClampNeg (nI k)))) ?_ ?_ ⟨fun q => if_pos q, fun q => if_neg q⟩ (fun G2 N2 hG hN h0 => ⟨rfl, ?_⟩)
  · rintro p r j n rfl hp rfl hr rfl hjn rfl - hy U k h1 h5
    have L := hrun.p hp
    simp only [if_pos hy, nI_clamp (show p < 2 ^ 31 by have := hrun.c.b6; omega), nI_clamp (show r < 2 ^ 31 by omega), nI_clamp (show j < 2 ^ 31 by omega), nI_clamp (show n < 2 ^ 31 by omega)]
    exact (fit_sim (it := N 1 (10 + r)) n j j ((L.like U).ok.c9 p (nI (k))) ((L.like U).sim.sort p (nI (k))) (fun _ _ => rfl)).trans (fit_sim (it := N 1 (10 + r)) n j j (L.ok.c9 p (nI (k))) (L.sim.sort p (nI (k))) (fun _ _ => rfl)).symm
  · rintro p r j n rfl hp rfl hr rfl hjn rfl - hy U k h1 h5
    have L := hrun.p hp
    simp only [if_neg hy, nI_clamp (show p < 2 ^ 31 by have := hrun.c.b6; omega), nI_clamp (show r < 2 ^ 31 by omega), nI_clamp (show j < 2 ^ 31 by omega), nI_clamp (show n < 2 ^ 31 by omega)]
    exact (fit_sim (it := N 1 (10 + r)) n j j ((L.like U).ok.c10 (k := p) (v := k) (by omega)) ((L.like U).sim.put L.b6 L.b8 (c := 10) (Or.inr ⟨rfl, hp⟩) (nI (k))) (fun _ _ => rfl)).trans (fit_sim (it := N 1 (10 + r)) n j j (L.ok.c10 (k := p) (v := k) (by omega)) (L.sim.put L.b6 L.b8 (c := 10) (Or.inr ⟨rfl, hp⟩) (nI (k))) (fun _ _ => rfl)).symm
  · have e40 : N2 40 = N 40 := hN 40 (by decide) (by decide) (by decide)
    refine V_in1 40 (kX7_who (d := 11) hG.mo (mb := mb) (pn := pn) (by rw [e40]; exact hrun.r) (by rw [e40]; exact hrow.1) (v := (if y = 0 then fitS (fun k => if y = 0 then rSo (N 40 0) (upd (N 40 11) a.toNatClampNeg (nI k)) mb (N 40 3) z.toNatClampNeg (40 * w.toNatClampNeg + x.toNatClampNeg) (N 40 13) true else rSo (N 40 0) (N 40 11) mb (N 40 3) z.toNatClampNeg (40 * w.toNatClampNeg + x.toNatClampNeg) (upd (N 40 13) (1 + a.toNatClampNeg) (nI k)) true) 1 5 else fitS (fun k => if y = 0 then rSo (N 40 0) (upd (N 40 11) a.toNatClampNeg (nI k)) mb (N 40 3) z.toNatClampNeg (40 * w.toNatClampNeg + x.toNatClampNeg) (N 40 13) true else rSo (N 40 0) (N 40 11) mb (N 40 3) z.toNatClampNeg (40 * w.toNatClampNeg + x.toNatClampNeg) (upd (N 40 13) (1 + a.toNatClampNeg) (nI k)) true) 0 2)) (pv := (fun k => if y = 0 then rSo (N 40 0) (upd (N 40 11) a.toNatClampNeg (nI k)) mb (N 40 3) z.toNatClampNeg (40 * w.toNatClampNeg + x.toNatClampNeg) (N 40 13) true else rSo (N 40 0) (N 40 11) mb (N 40 3) z.toNatClampNeg (40 * w.toNatClampNeg + x.toNatClampNeg) (upd (N 40 13) (1 + a.toNatClampNeg) (nI k)) true)) ?_ ?_ ⟨fun q => if_pos q, fun q => if_neg q⟩ (fun S2 h3 => ?_))
    · rw [e40]
      rintro p r j n rfl hp rfl hr rfl hjn rfl hy k h1 h5 o so f ho hso hf it rfl
      have L := hrun.p hp
      have e := funext hso
      subst e
      simp only [if_pos hy, nI_clamp (show p < 2 ^ 31 by have := hrun.c.b6; omega), nI_clamp (show r < 2 ^ 31 by omega), nI_clamp (show j < 2 ^ 31 by omega), nI_clamp (show n < 2 ^ 31 by omega)]
      exact (fit_sim (g := N 40 3) n (40 * r + j) (40 * r + j) (L.ok.c9 p (nI (k))) ((((L.ag hf).sim).oeq ho).sort p (nI (k))) (fun _ _ => rfl)).symm.trans (fit_sim (g := N 40 3) n (40 * r + j) (40 * r + j) (L.ok.c9 p (nI (k))) (L.sim.sort p (nI (k))) (fun _ _ => rfl))
    · rw [e40]
      rintro p r j n rfl hp rfl hr rfl hjn rfl hy k h5 o so f ho hso hf it rfl
      have L := hrun.p hp
      have e := funext hso
      subst e
      simp only [if_neg hy, nI_clamp (show p < 2 ^ 31 by have := hrun.c.b6; omega), nI_clamp (show r < 2 ^ 31 by omega), nI_clamp (show j < 2 ^ 31 by omega), nI_clamp (show n < 2 ^ 31 by omega)]
      exact (fit_sim (g := N 40 3) n (40 * r + j) (40 * r + j) (L.ok.c10 (k := p) (v := k) (by omega)) ((((L.ag hf).sim).oeq ho).put L.b6 L.b8 (c := 10) (Or.inr ⟨rfl, hp⟩) (nI (k))) (fun _ _ => rfl)).symm.trans (fit_sim (g := N 40 3) n (40 * r + j) (40 * r + j) (L.ok.c10 (k := p) (v := k) (by omega)) (L.sim.put L.b6 L.b8 (c := 10) (Or.inr ⟨rfl, hp⟩) (nI (k))) (fun _ _ => rfl))
    · rw [e40] at h3 ⊢
      by_cases c : rIn a (nI 0) (nI pn - nI 1) ∧ rIn y (nI 0) (nI 1) ∧ rIn w (nI 0) (nI 7) ∧ rIn z (nI 1) (nI 12)
      · rw [if_pos c] at h0 h3
        rw [if_pos c, if_pos c]
        obtain ⟨r, -, hr7, rfl⟩ := rIn_k c.2.2.1 (by decide) (by decide)
        have hr : r < 8 := by omega
        rw [hrow.fq hr] at h0 ⊢
        refine ⟨rfl, ?_, ⟨_, rfl⟩, h.fd hG (fun r a b c _ => hN r a b c) h0 h3⟩
        by_cases c2 : fnd (N 40 2) (nI r) x z = 0
        · rw [if_pos c2, if_pos c2]
          obtain ⟨j, n, len, rfl, rfl, hlen, hjn, h40⟩ := hrow.pl hr c2
          obtain ⟨p, hp, rfl⟩ := rIn_m c.1 (by have := hrun.c.b6; omega)
          have L := hrun.p hp
          have hg : ∀ i, i < n → N 1 (10 + r) (j + i) = N 40 3 (40 * r + j + i) := fun i hi => by
            rw [hrow.2.2.2 r len (j + i) hr hlen h40 (by omega), Nat.add_assoc]
          congr 2
          by_cases hy : y = 0
          · rw [if_pos hy, if_pos hy]
            refine fitS_cg _ _ (fun i hi => ?_)
            simp only [if_pos hy, nI_clamp (show p < 2 ^ 31 by have := hrun.c.b6; omega), nI_clamp (show r < 2 ^ 31 by omega), nI_clamp (show j < 2 ^ 31 by omega), nI_clamp (show n < 2 ^ 31 by omega)]
            exact (fit_sim n j (40 * r + j) (L.ok.c9 p (nI (1 + i))) (L.sim.sort p (nI (1 + i))) hg).symm
          · rw [if_neg hy, if_neg hy]
            refine fitS_cg _ _ (fun i hi => ?_)
            simp only [if_neg hy, nI_clamp (show p < 2 ^ 31 by have := hrun.c.b6; omega), nI_clamp (show r < 2 ^ 31 by omega), nI_clamp (show j < 2 ^ 31 by omega), nI_clamp (show n < 2 ^ 31 by omega)]
            exact (fit_sim n j (40 * r + j) (L.ok.c10 (k := p) (v := 0 + i) (by omega)) (L.sim.put L.b6 L.b8 (c := 10) (Or.inr ⟨rfl, hp⟩) (nI (0 + i))) hg).symm
        · rw [if_neg c2, if_neg c2]
      · rw [if_neg c] at h0 h3
        rw [if_neg c, if_neg c]
        refine ⟨rfl, rfl, ⟨_, rfl⟩, ?_⟩
        rw [va_up_eq]
        refine h.st hG (fun r a1 a2 a3 a4 => by rw [va_up_no _ _ a4]; exact hN r a1 a2 a3) h3.1 (fun k h1 _ => h3.2 k h1) ?_ ?_
        · rw [va_up_no _ _ (by decide), h0]
        · rw [va_up_no _ _ (by decide), h0, h3.2 3 (by decide)]
          exact h.2.2.2.1.2
theorem b_weights (h : Rl bd Y G N (N 40)) : Both bd 16 cX6_weights 7 [some (xR 0 0), some (xI a), some (xI y), some (xI w), some (xI x), some (xI z), none] cX7_weights 10 [some (xR 40 0), some (xI a), some (xI y), some (xI w), some (xI x), some (xI z), none, none, none, none] Y G N := by
  obtain ⟨mb, pn, hrun, hact⟩ := h.2.2.2.2.2.2
  have hrow := h.2.1
  refine kX6_weights (d := 10) h.1 rfl hrun.c hrow.sz (v := (if y = 0 then fitS (fun k => if y = 0 then cFit mb (N 1 (10 + w.toNatClampNeg)) z.toNatClampNeg x.toNatClampNeg (tPut (N 3) 6 a.toNatClampNeg (nI k)) else cFit mb (N 1 (10 + w.toNatClampNeg)) z.toNatClampNeg x.toNatClampNeg (tPut (N 3) 0 0 (nI k))) 1 9 else fitS (fun k => if y = 0 then cFit mb (N 1 (10 + w.toNatClampNeg)) z.toNatClampNeg x.toNatClampNeg (tPut (N 3) 6 a.toNatClampNeg (nI k)) else cFit mb (N 1 (10 + w.toNatClampNeg)) z.toNatClampNeg x.toNatClampNeg (tPut (N 3) 0 0 (nI k))) 1 9)) (pv := (fun k => if y = 0 then cFit mb (N 1 (10 + w.toNatClampNeg)) z.toNatClampNeg x.toNatClampNeg (tPut (N 3) 6 a.toNatClampNeg (nI k)) else cFit mb (N 1 (10 + w.toNatClampNeg)) z.toNatClampNeg x.toNatClampNeg (tPut (N 3) 0 0 (nI k)))) ?_ ?_ ⟨fun q => if_pos q, fun q => if_neg q⟩ (fun G2 N2 hG hN h0 => ⟨rfl, ?_⟩)
  · rintro p r j n rfl hp rfl hr rfl hjn rfl - hy U k h1 h5
    have L := hrun.m hp
    simp only [if_pos hy, nI_clamp (show p < 2 ^ 31 by have := hrun.c.b6; omega), nI_clamp (show r < 2 ^ 31 by omega), nI_clamp (show j < 2 ^ 31 by omega), nI_clamp (show n < 2 ^ 31 by omega)]
    exact (fit_sim (it := N 1 (10 + r)) n j j ((L.like U).ok.c6 p (nI (k))) ((L.like U).sim.put L.b6 L.b8 (c := 6) (Or.inl ⟨rfl, hp⟩) (nI (k))) (fun _ _ => rfl)).trans (fit_sim (it := N 1 (10 + r)) n j j (L.ok.c6 p (nI (k))) (L.sim.put L.b6 L.b8 (c := 6) (Or.inl ⟨rfl, hp⟩) (nI (k))) (fun _ _ => rfl)).symm
  · rintro p r j n rfl hp rfl hr rfl hjn rfl - hy U k h1 h5
    have L := hrun.m hp
    simp only [if_neg hy, nI_clamp (show p < 2 ^ 31 by have := hrun.c.b6; omega), nI_clamp (show r < 2 ^ 31 by omega), nI_clamp (show j < 2 ^ 31 by omega), nI_clamp (show n < 2 ^ 31 by omega)]
    exact (fit_sim (it := N 1 (10 + r)) n j j ((L.like U).ok.bar (k := 0) (by decide) (by decide) (nI (k))) ((L.like U).sim.bar (nI (k))) (fun _ _ => rfl)).trans (fit_sim (it := N 1 (10 + r)) n j j (L.ok.bar (k := 0) (by decide) (by decide) (nI (k))) (L.sim.bar (nI (k))) (fun _ _ => rfl)).symm
  · have e40 : N2 40 = N 40 := hN 40 (by decide) (by decide) (by decide)
    refine V_in1 40 (kX7_weights (d := 11) hG.mo (mb := mb) (pn := pn) (by rw [e40]; exact hrun.r) (by rw [e40]; exact hrow.1) (v := (if y = 0 then fitS (fun k => if y = 0 then rSo (N 40 0) (N 40 11) mb (N 40 3) z.toNatClampNeg (40 * w.toNatClampNeg + x.toNatClampNeg) (upd (N 40 13) (55 + a.toNatClampNeg) (nI k)) true else rSo (upd (N 40 0) 7 (nI k)) (N 40 11) mb (N 40 3) z.toNatClampNeg (40 * w.toNatClampNeg + x.toNatClampNeg) (N 40 13) true) 1 9 else fitS (fun k => if y = 0 then rSo (N 40 0) (N 40 11) mb (N 40 3) z.toNatClampNeg (40 * w.toNatClampNeg + x.toNatClampNeg) (upd (N 40 13) (55 + a.toNatClampNeg) (nI k)) true else rSo (upd (N 40 0) 7 (nI k)) (N 40 11) mb (N 40 3) z.toNatClampNeg (40 * w.toNatClampNeg + x.toNatClampNeg) (N 40 13) true) 1 9)) (pv := (fun k => if y = 0 then rSo (N 40 0) (N 40 11) mb (N 40 3) z.toNatClampNeg (40 * w.toNatClampNeg + x.toNatClampNeg) (upd (N 40 13) (55 + a.toNatClampNeg) (nI k)) true else rSo (upd (N 40 0) 7 (nI k)) (N 40 11) mb (N 40 3) z.toNatClampNeg (40 * w.toNatClampNeg + x.toNatClampNeg) (N 40 13) true)) ?_ ?_ ?_ (fun S2 h3 => ?_))
    · rw [e40]
      rintro p r j n rfl hp rfl hr rfl hjn rfl hy k h1 h5 o so f ho hso hf it rfl
      have L := hrun.m hp
      have e := funext hso
      subst e
      simp only [if_pos hy, nI_clamp (show p < 2 ^ 31 by have := hrun.c.b6; omega), nI_clamp (show r < 2 ^ 31 by omega), nI_clamp (show j < 2 ^ 31 by omega), nI_clamp (show n < 2 ^ 31 by omega)]
      exact (fit_sim (g := N 40 3) n (40 * r + j) (40 * r + j) (L.ok.c6 p (nI (k))) ((((L.ag hf).sim).oeq ho).put L.b6 L.b8 (c := 6) (Or.inl ⟨rfl, hp⟩) (nI (k))) (fun _ _ => rfl)).symm.trans (fit_sim (g := N 40 3) n (40 * r + j) (40 * r + j) (L.ok.c6 p (nI (k))) (L.sim.put L.b6 L.b8 (c := 6) (Or.inl ⟨rfl, hp⟩) (nI (k))) (fun _ _ => rfl))
    · rw [e40]
      rintro p r j n rfl hp rfl hr rfl hjn rfl hy k h1 h5 o so f ho hso hf it rfl
      have L := hrun.m hp
      have e := funext hso
      subst e
      simp only [if_neg hy, nI_clamp (show p < 2 ^ 31 by have := hrun.c.b6; omega), nI_clamp (show r < 2 ^ 31 by omega), nI_clamp (show j < 2 ^ 31 by omega), nI_clamp (show n < 2 ^ 31 by omega)]
      exact (fit_sim (g := N 40 3) n (40 * r + j) (40 * r + j) (L.ok.bar (k := 0) (by decide) (by decide) (nI (k))) ((((L.ag hf).sim).bar (nI (k))).oeq ho) (fun _ _ => rfl)).symm.trans (fit_sim (g := N 40 3) n (40 * r + j) (40 * r + j) (L.ok.bar (k := 0) (by decide) (by decide) (nI (k))) (L.sim.bar (nI (k))) (fun _ _ => rfl))
    · split <;> rfl
    · rw [e40] at h3 ⊢
      by_cases c : rIn a (nI 0) (nI mb - nI 1) ∧ rIn y (nI 0) (nI 1) ∧ rIn w (nI 0) (nI 7) ∧ rIn z (nI 1) (nI 12)
      · rw [if_pos c] at h0 h3
        rw [if_pos c, if_pos c]
        obtain ⟨r, -, hr7, rfl⟩ := rIn_k c.2.2.1 (by decide) (by decide)
        have hr : r < 8 := by omega
        rw [hrow.fq hr] at h0 ⊢
        refine ⟨rfl, ?_, ⟨_, rfl⟩, h.fd hG (fun r a b c _ => hN r a b c) h0 h3⟩
        by_cases c2 : fnd (N 40 2) (nI r) x z = 0
        · rw [if_pos c2, if_pos c2]
          obtain ⟨j, n, len, rfl, rfl, hlen, hjn, h40⟩ := hrow.pl hr c2
          obtain ⟨p, hp, rfl⟩ := rIn_m c.1 (by have := hrun.c.b6; omega)
          have L := hrun.m hp
          have hg : ∀ i, i < n → N 1 (10 + r) (j + i) = N 40 3 (40 * r + j + i) := fun i hi => by
            rw [hrow.2.2.2 r len (j + i) hr hlen h40 (by omega), Nat.add_assoc]
          congr 2
          by_cases hy : y = 0
          · rw [if_pos hy, if_pos hy]
            refine fitS_cg _ _ (fun i hi => ?_)
            simp only [if_pos hy, nI_clamp (show p < 2 ^ 31 by have := hrun.c.b6; omega), nI_clamp (show r < 2 ^ 31 by omega), nI_clamp (show j < 2 ^ 31 by omega), nI_clamp (show n < 2 ^ 31 by omega)]
            exact (fit_sim n j (40 * r + j) (L.ok.c6 p (nI (1 + i))) (L.sim.put L.b6 L.b8 (c := 6) (Or.inl ⟨rfl, hp⟩) (nI (1 + i))) hg).symm
          · rw [if_neg hy, if_neg hy]
            refine fitS_cg _ _ (fun i hi => ?_)
            simp only [if_neg hy, nI_clamp (show p < 2 ^ 31 by have := hrun.c.b6; omega), nI_clamp (show r < 2 ^ 31 by omega), nI_clamp (show j < 2 ^ 31 by omega), nI_clamp (show n < 2 ^ 31 by omega)]
            exact (fit_sim n j (40 * r + j) (L.ok.bar (k := 0) (by decide) (by decide) (nI (1 + i))) (L.sim.bar (nI (1 + i))) hg).symm
        · rw [if_neg c2, if_neg c2]
      · rw [if_neg c] at h0 h3
        rw [if_neg c, if_neg c]
        refine ⟨rfl, rfl, ⟨_, rfl⟩, ?_⟩
        rw [va_up_eq]
        refine h.st hG (fun r a1 a2 a3 a4 => by rw [va_up_no _ _ a4]; exact hN r a1 a2 a3) h3.1 (fun k h1 _ => h3.2 k h1) ?_ ?_
        · rw [va_up_no _ _ (by decide), h0]
        · rw [va_up_no _ _ (by decide), h0, h3.2 3 (by decide)]
          exact h.2.2.2.1.2
end BB
