section BB
variable {bd : Nat} {Y : xY} {G : xG} {N : xM} {a b2 e l x y z v w : Int32}
theorem Live.go {mb pn : Nat} {T : xT} {o so f : Nat → Int32} (h : Live bd mb pn T o so f) (k : Nat) : Sim0 mb pn (tRunOn mb k T) o so (rGo o so mb k f) := runOn_sim k h.ok h.sim
theorem Live.b6 {mb pn : Nat} {T : xT} {o so f : Nat → Int32} (h : Live bd mb pn T o so f) : mb ≤ 6 := h.ok.mb
theorem Live.b8 {mb pn : Nat} {T : xT} {o so f : Nat → Int32} (h : Live bd mb pn T o so f) : pn ≤ 8 := h.ok.pn
theorem many0 (f : Nat → Int32) (lo hi : Int32) {n : Nat} (hn : n ≤ 6) : ∃ s, s ≤ 8 ∧ rBits (rThose f lo hi n) 8 = nI s := by
  obtain ⟨s, h1, h2⟩ := those_nat f lo hi hn
  exact ⟨_, bcL s, by rw [h2, bcR s (by omega)]⟩
theorem b_stands (h : Rl bd Y G N (N 40)) : Both bd 16 cX6_stands 5 [some (xR 0 0), some (xI a), some (xI z), some (xI y), none] cX7_stands 4 [some (xR 40 0), some (xI a), some (xI z), some (xI y)] Y G N := by
  obtain ⟨mb, pn, hrun, -⟩ := h.2.2.2.2.2.2
  refine kX6_stands (d := 11) h.1 rfl hrun.c (v := if y = 0 then rGo (N 40 0) (N 40 11) mb z.toNatClampNeg (N 40 13) (1 + a.toNatClampNeg) else if y = nI 1 then rGo (N 40 0) (N 40 11) mb z.toNatClampNeg (N 40 13) (25 + a.toNatClampNeg) else if y = nI 2 then rGo (N 40 0) (N 40 11) mb z.toNatClampNeg (N 40 13) (33 + a.toNatClampNeg) else rGo (N 40 0) (N 40 11) mb z.toNatClampNeg (N 40 13) (41 + a.toNatClampNeg)) ?_ (fun N2 h2 => ⟨rfl, ?_⟩)
  · rintro m k rfl hm rfl hk - U
    rw [nI_clamp (by omega), nI_clamp (by have := hrun.c.b6; omega)]
    have q10 := (((hrun.p hm).like U).go k).p (c := 10) rfl hm
    have q13 := (((hrun.p hm).like U).go k).p (c := 13) rfl hm
    have q14 := (((hrun.p hm).like U).go k).p (c := 14) rfl hm
    have q15 := (((hrun.p hm).like U).go k).p (c := 15) rfl hm
    rw [q10, q13, q14, q15]
    rfl
  · have e40 : N2 40 = N 40 := h2 40 (by decide) (by decide)
    refine V_in1 40 (kX7_stands (d := 12) h.1.mo (mb := mb) (pn := pn) (by rw [e40]; exact hrun.r) (v := if y = 0 then rGo (N 40 0) (N 40 11) mb z.toNatClampNeg (N 40 13) (1 + a.toNatClampNeg) else if y = nI 1 then rGo (N 40 0) (N 40 11) mb z.toNatClampNeg (N 40 13) (25 + a.toNatClampNeg) else if y = nI 2 then rGo (N 40 0) (N 40 11) mb z.toNatClampNeg (N 40 13) (33 + a.toNatClampNeg) else rGo (N 40 0) (N 40 11) mb z.toNatClampNeg (N 40 13) (41 + a.toNatClampNeg)) ?_ (fun S2 h3 => ⟨rfl, rfl, ⟨_, rfl⟩, h.stay h2 h3⟩))
    rw [e40]
    rintro m k rfl hm rfl hk f hf
    rw [nI_clamp (by omega), nI_clamp (by have := hrun.c.b6; omega)]
    have q10 := ((hrun.p hm).go k).p (c := 10) rfl hm
    have q13 := ((hrun.p hm).go k).p (c := 13) rfl hm
    have q14 := ((hrun.p hm).go k).p (c := 14) rfl hm
    have q15 := ((hrun.p hm).go k).p (c := 15) rfl hm
    have p10 := (((hrun.p hm).ag hf).go k).p (c := 10) rfl hm
    have p13 := (((hrun.p hm).ag hf).go k).p (c := 13) rfl hm
    have p14 := (((hrun.p hm).ag hf).go k).p (c := 14) rfl hm
    have p15 := (((hrun.p hm).ag hf).go k).p (c := 15) rfl hm
    have r10 := p10.symm.trans q10
    have r13 := p13.symm.trans q13
    have r14 := p14.symm.trans q14
    have r15 := p15.symm.trans q15
    simp only [bs] at r10 r13 r14 r15
    rw [r10, r13, r14, r15]
theorem b_trays (h : Rl bd Y G N (N 40)) : Both bd 16 cX6_trays 3 [some (xR 0 0), some (xI z), some (xI y)] cX7_trays 3 [some (xR 40 0), some (xI z), some (xI y)] Y G N := by
  obtain ⟨mb, pn, hrun, -⟩ := h.2.2.2.2.2.2
  refine kX6_trays (d := 11) h.1 rfl hrun.c (v := if y = 0 then rThose (rGo (N 40 0) (N 40 11) mb z.toNatClampNeg (N 40 13)) (nI 8) (nI 8) mb else rThose (rGo (N 40 0) (N 40 11) mb z.toNatClampNeg (N 40 13)) (nI 9) (nI 9) mb) ?_ (fun N2 h2 => ⟨rfl, ?_⟩)
  · rintro k rfl hk hm - U
    have L := ((hrun.m (m := 0) hm).like U).go k
    rw [nI_clamp (by omega), bits_sim L _ _ mb (Nat.le_refl _), bits_sim L _ _ mb (Nat.le_refl _)]
  · have e40 : N2 40 = N 40 := h2 40 (by decide) (by decide)
    refine V_in1 40 (kX7_trays (d := 12) h.1.mo (mb := mb) (pn := pn) (by rw [e40]; exact hrun.r) (v := if y = 0 then rThose (rGo (N 40 0) (N 40 11) mb z.toNatClampNeg (N 40 13)) (nI 8) (nI 8) mb else rThose (rGo (N 40 0) (N 40 11) mb z.toNatClampNeg (N 40 13)) (nI 9) (nI 9) mb) ?_ (fun S2 h3 => ⟨rfl, rfl, ⟨_, rfl⟩, h.stay h2 h3⟩))
    rw [e40]
    rintro k rfl hk hm - f hf
    have L := (hrun.m (m := 0) hm).go k
    have L2 := ((hrun.m (m := 0) hm).ag hf).go k
    rw [nI_clamp (by omega), ← bits_sim L _ _ mb (Nat.le_refl _), ← bits_sim L _ _ mb (Nat.le_refl _), ← bits_sim L2 _ _ mb (Nat.le_refl _), ← bits_sim L2 _ _ mb (Nat.le_refl _)]
theorem b_when (h : Rl bd Y G N (N 40)) : Both bd 16 cX6_when 2 [some (xR 0 0), some (xI a)] cX7_when 3 [some (xR 40 0), some (xI a), none] Y G N := by
  obtain ⟨mb, pn, hrun, -⟩ := h.2.2.2.2.2.2
  refine kX6_when (d := 12) h.1 rfl hrun.c (v := rWh (N 40 0) (N 40 11) mb a.toNatClampNeg 61 0 (N 40 13)) ?_ (fun N2 h2 => ⟨rfl, ?_⟩)
  · rintro m rfl hm - U
    have L := (hrun.m hm).like U
    rw [nI_clamp (by have := L.b6; omega)]
    exact when_sim hm 61 0 L.ok L.sim
  · have e40 : N2 40 = N 40 := h2 40 (by decide) (by decide)
    refine V_in1 40 (kX7_when (d := 12) h.1.mo (mb := mb) (pn := pn) (by rw [e40]; exact hrun.r) (v := rWh (N 40 0) (N 40 11) mb a.toNatClampNeg 61 0 (N 40 13)) ?_ (fun S2 h3 => ⟨rfl, rfl, ⟨_, rfl⟩, h.stay h2 h3⟩))
    rw [e40]
    rintro m rfl hm f hf
    have L := hrun.m hm
    rw [nI_clamp (by have := L.b6; omega)]
    exact (when_sim hm 61 0 L.ok (L.ag hf).sim).symm.trans (when_sim hm 61 0 L.ok L.sim)
theorem b_rest (h : Rl bd Y G N (N 40)) : Both bd 16 cX6_rest 1 [some (xR 0 0)] cX7_rest 2 [some (xR 40 0), none] Y G N := by
  obtain ⟨mb, pn, hrun, -⟩ := h.2.2.2.2.2.2
  refine kX6_rest (d := 12) h.1 rfl hrun.c (v := rRs (N 40 0) (N 40 11) mb 61 0 (N 40 13)) ?_ (fun N2 h2 => ⟨rfl, ?_⟩)
  · intro hm _ U
    have L := (hrun.m (m := 0) hm).like U
    exact rest_sim 61 0 L.ok L.sim
  · have e40 : N2 40 = N 40 := h2 40 (by decide) (by decide)
    refine V_in1 40 (kX7_rest (d := 12) h.1.mo (mb := mb) (pn := pn) (by rw [e40]; exact hrun.r) (v := rRs (N 40 0) (N 40 11) mb 61 0 (N 40 13)) ?_ (fun S2 h3 => ⟨rfl, rfl, ⟨_, rfl⟩, h.stay h2 h3⟩))
    rw [e40]
    intro hm _ f hf
    have L := hrun.m (m := 0) hm
    exact (rest_sim 61 0 L.ok (L.ag hf).sim).symm.trans (rest_sim 61 0 L.ok L.sim)
theorem Live.ri {mb pn : Nat} {T : xT} {o so f : Nat → Int32} (h : Live bd mb pn T o so f) {p q : Nat} (hp : p < pn) (hq : p < q) (hq9 : q ≤ 9) : Live bd mb pn (tRi T p (nI q)) o so (upd f (17 + p) (nI q)) :=
  ⟨h.1, h.sim.put h.b6 h.b8 (c := 12) (Or.inr ⟨rfl, hp⟩) _, h.2.2.1, h.ok.right hq hq9, h.2.2.2.2⟩
theorem b_leads (h : Rl bd Y G N (N 40)) : Both bd 16 cX6_leads 4 [some (xR 0 0), some (xI a), some (xI z), some (xI y)] cX7_leads 8 [some (xR 40 0), some (xI a), some (xI z), some (xI y), none, none, none, none] Y G N := by
  obtain ⟨mb, pn, hrun, -⟩ := h.2.2.2.2.2.2
  refine kX6_leads (d := 11) h.1 rfl hrun.c (v := (fun q => rBits (rThose (rGo (N 40 0) (N 40 11) mb z.toNatClampNeg (upd (N 40 13) (17 + a.toNatClampNeg) (nI q))) (nI 9) (nI 9) mb) 8)) (w := (if y = 0 then nI (rLd (fun q => rBits (rThose (rGo (N 40 0) (N 40 11) mb z.toNatClampNeg (upd (N 40 13) (17 + a.toNatClampNeg) (nI q))) (nI 9) (nI 9) mb) 8) a.toNatClampNeg (9 - a.toNatClampNeg)).2 else (rLd (fun q => rBits (rThose (rGo (N 40 0) (N 40 11) mb z.toNatClampNeg (upd (N 40 13) (17 + a.toNatClampNeg) (nI q))) (nI 9) (nI 9) mb) 8) a.toNatClampNeg (9 - a.toNatClampNeg)).1)) ?_ ?_ (fun N2 h2 => ⟨rfl, ?_⟩)
  · rintro p n rfl hp rfl hn - U q h1 h2
    have L := (((hrun.p hp).like U).ri hp h1 h2).go n
    simp only [nI_clamp (show n < 2 ^ 31 by omega), nI_clamp (show p < 2 ^ 31 by have := hrun.c.b6; omega)]
    exact many_sim L hrun.c.b6.1 _ _
  · rintro p rfl hp
    have b8 := (hrun.p hp).b8
    rw [nI_clamp (show p < 2 ^ 31 by omega), leads_eq _ p ?_ (9 - p) (by omega)]
    obtain ⟨s, h1, h2⟩ := many0 (rGo (N 40 0) (N 40 11) mb z.toNatClampNeg (upd (N 40 13) (17 + p) (nI (p + 1)))) (nI 9) (nI 9) hrun.c.b6.1
    show 0 ≤ rBits _ 8
    rw [h2]
    exact Int32.not_lt.mp (nI_pos (by omega))
  · have e40 : N2 40 = N 40 := h2 40 (by decide) (by decide)
    refine V_in1 40 (kX7_leads (d := 12) h.1.mo (mb := mb) (pn := pn) (by rw [e40]; exact hrun.r) (v := (fun q => rBits (rThose (rGo (N 40 0) (N 40 11) mb z.toNatClampNeg (upd (N 40 13) (17 + a.toNatClampNeg) (nI q))) (nI 9) (nI 9) mb) 8)) (w := (if y = 0 then nI (rLd (fun q => rBits (rThose (rGo (N 40 0) (N 40 11) mb z.toNatClampNeg (upd (N 40 13) (17 + a.toNatClampNeg) (nI q))) (nI 9) (nI 9) mb) 8) a.toNatClampNeg (9 - a.toNatClampNeg)).2 else (rLd (fun q => rBits (rThose (rGo (N 40 0) (N 40 11) mb z.toNatClampNeg (upd (N 40 13) (17 + a.toNatClampNeg) (nI q))) (nI 9) (nI 9) mb) 8) a.toNatClampNeg (9 - a.toNatClampNeg)).1)) ?_ ?_ (fun S2 h3 => ⟨rfl, rfl, ⟨_, rfl⟩, h.stay h2 h3⟩))
    · rw [e40]
      rintro p n rfl hp rfl hn - q h1 h2 f hf
      have L := ((hrun.p hp).ri hp h1 h2).go n
      have L2 := (((hrun.p hp).ag hf).ri hp h1 h2).go n
      simp only [nI_clamp (show n < 2 ^ 31 by omega), nI_clamp (show p < 2 ^ 31 by have := hrun.c.b6; omega)]
      exact (many_sim L2 hrun.c.b6.1 _ _).symm.trans (many_sim L hrun.c.b6.1 _ _)
    · rintro p rfl hp
      rw [nI_clamp (show p < 2 ^ 31 by have := (hrun.p hp).b8; omega)]
end BB
