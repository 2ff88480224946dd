section BB
variable {bd : Nat} {Y : xY} {G : xG} {N : xM} {a b2 e l x y z v w : Int32}
theorem Live.pass {mb pn : Nat} {T : xT} {o so f : Nat → Int32} (h : Live bd mb pn T o so f) : Live bd mb pn (tPass T mb) o so (rTick o so mb f) := ⟨h.1, (pass_sim h.sim h.ok).2.2.1, h.2.2.1, (pass_sim h.sim h.ok).2.2.2, fun j hj => by rw [tPass_k T mb (by decide) (by decide) (by decide) (by decide) (by decide) (by decide)]; exact h.2.2.2.2.1 j hj, fun p hp => by rw [tPass_k T mb (by decide) (by decide) (by decide) (by decide) (by decide) (by decide)]; exact h.2.2.2.2.2.1 p hp, pass_pot h.ok h.2.2.2.2.1 h.2.2.2.2.2.2⟩
theorem Live.swAll {mb pn : Nat} {T : xT} {o so f : Nat → Int32} (h : Live bd mb pn T o so f) (s : Int32) : Live bd mb pn (tSwAll T s pn) o so (rTipN f s pn) := ⟨h.1, tips_sim h.sim h.ok s pn (Nat.le_refl _), h.2.2.1, h.ok.swAll s pn (Nat.le_refl _), h.2.2.2.2.cg (tSwAll_ne T s (by decide) pn) (tSwAll_ne T s (by decide) pn) (tSwAll_ne T s (by decide) pn) (tSwAll_ne T s (by decide) pn)⟩
theorem Live.pt {mb pn : Nat} {T : xT} {o so f : Nat → Int32} (h : Live bd mb pn T o so f) {pt k : Nat} (hpt : tPtd T pn = nI pt) (hp2 : pt < 256) (hk : k < 256) (n : Nat) (lo hi : Int32) : rBits (rThose (rGo o so mb n (rTipN f (nI (k &&& pt)) pn)) lo hi mb) 8 = rBits (rThose (rGo o so mb n (rTipN f (nI k) pn)) lo hi mb) 8 := by
  rw [← many_sim ((h.swAll (nI k)).go n) h.b6, ← many_sim ((h.swAll (nI (k &&& pt))).go n) h.b6]
  rw [((PE.swAll h.b8 hpt hp2 hk pn (Nat.le_refl _)).runOn n).bits]
theorem Live.ptN {mb pn : Nat} {T : xT} {o so f : Nat → Int32} (h : Live bd mb pn T o so f) : ∃ pt, pt < 2 ^ pn ∧ tPtd T pn = nI pt := ⟨_, bN_lt _ _, ptd_bN T pn h.b8⟩
theorem pow8 {pn : Nat} (h : pn ≤ 8) : 2 ^ pn ≤ 256 := Nat.pow_le_pow_right (by decide) h
theorem b_tips (h : Rl bd Y G N (N 40)) : Both bd 16 cX6_tips 3 [some (xR 0 0), some (xI z), some (xI y)] cX7_tips 7 [some (xR 40 0), some (xI z), some (xI y), none, none, none, none] Y G N := by
  obtain ⟨mb, pn, hrun, -⟩ := h.2.2.2.2.2.2
  refine kX6_tips (d := 11) h.1 rfl hrun.c (v := (fun k => rBits (rThose (rGo (N 40 0) (N 40 11) mb z.toNatClampNeg (rTipN (N 40 13) (nI k) pn)) (nI 9) (nI 9) mb) 8)) (w := (if y = 0 then nI (rTp (fun k => rBits (rThose (rGo (N 40 0) (N 40 11) mb z.toNatClampNeg (rTipN (N 40 13) (nI k) pn)) (nI 9) (nI 9) mb) 8) (2 ^ pn)).2 else (rTp (fun k => rBits (rThose (rGo (N 40 0) (N 40 11) mb z.toNatClampNeg (rTipN (N 40 13) (nI k) pn)) (nI 9) (nI 9) mb) 8) (2 ^ pn)).1)) ?_ ?_ (fun N2 h2 => ⟨rfl, ?_⟩)
  · intro hm _
    have L := hrun.m (m := 0) hm
    obtain ⟨pt, h1, h2⟩ := L.ptN
    have h8 := pow8 L.b8
    refine ⟨pt, by omega, h2, ?_⟩
    rw [tips_eq h1 h8 (fun k hk => L.pt h2 (by omega) (by omega) _ _ _)]
  · rintro n rfl hn hm - U k hk
    have L := (((hrun.m (m := 0) hm).like U).swAll (nI k)).go n
    simp only [nI_clamp (show n < 2 ^ 31 by omega)]
    exact many_sim L hrun.c.b6.1 _ _
  · have e40 : N2 40 = N 40 := h2 40 (by decide) (by decide)
    refine V_in1 40 (kX7_tips (d := 12) h.1.mo (mb := mb) (pn := pn) (by rw [e40]; exact hrun.r) (v := (fun k => rBits (rThose (rGo (N 40 0) (N 40 11) mb z.toNatClampNeg (rTipN (N 40 13) (nI k) pn)) (nI 9) (nI 9) mb) 8)) ?_ (fun S2 h3 => ⟨rfl, rfl, ⟨_, rfl⟩, h.stay h2 h3⟩))
    rw [e40]
    rintro n rfl hn hm - k hk f hf
    have L := ((hrun.m (m := 0) hm).swAll (nI k)).go n
    have L2 := (((hrun.m (m := 0) hm).ag hf).swAll (nI k)).go n
    simp only [nI_clamp (show n < 2 ^ 31 by omega)]
    exact (many_sim L2 hrun.c.b6.1 _ _).symm.trans (many_sim L hrun.c.b6.1 _ _)
theorem and_mod {k pt q : Nat} (hk : k < 256) (h : nI pt = nI q) : k &&& pt = k &&& q := by
  have e : pt % 2 ^ 32 = q % 2 ^ 32 := by
    have := congrArg (fun x : Int32 => x.toBitVec.toNat) h
    simpa [nI] using this
  apply Nat.eq_of_testBit_eq
  intro i
  rw [Nat.testBit_and, Nat.testBit_and]
  by_cases hi : i < 32
  · have e2 := congrArg (fun x => x.testBit i) e
    simp only [Nat.testBit_mod_two_pow, hi, decide_true, Bool.true_and] at e2
    rw [e2]
  · rw [Nat.testBit_lt_two_pow (show k < 2 ^ i from Nat.lt_of_lt_of_le hk (Nat.le_trans (by decide : 256 ≤ 2 ^ 32) (Nat.pow_le_pow_right (by decide) (by omega))))]
    rfl
theorem b_byTurns (h : Rl bd Y G N (N 40)) : Both bd 16 cX6_byTurns 3 [some (xR 0 0), some (xI z), some (xI y)] cX7_byTurns 5 [some (xR 40 0), some (xI z), some (xI y), none, none] Y G N := by
  obtain ⟨mb, pn, hrun, -⟩ := h.2.2.2.2.2.2
  rcases hrun with hr0 | L
  · obtain ⟨rfl, rfl, -⟩ := id hr0
    have hrun : Run bd 0 0 (N 3) (N 40 0) (N 40 11) (N 40 13) := Or.inl hr0
    refine kX6_byTurns (d := 10) h.1 rfl hrun.c (v := tU 0 (fun _ => 0) z.toNatClampNeg z.toNatClampNeg 0) (W := fun _ => 0) (fun q _ => absurd q (by decide)) (fun m _ _ q => absurd q (by decide)) (fun _ _ _ _ => rfl) (by rintro n rfl hn; rw [nI_clamp (by omega)]) (fun N2 h2 => ⟨rfl, ?_⟩)
    have e40 : N2 40 = N 40 := h2 40 (by decide) (by decide)
    refine V_in1 40 (kX7_byTurns (d := 12) h.1.mo (mb := 0) (pn := 0) (by rw [e40]; exact hrun.r) (v := tU 0 (fun _ => 0) z.toNatClampNeg z.toNatClampNeg 0) (W := fun _ => 0) (fun m _ _ q => absurd q (by decide)) (by rintro n rfl hn; rw [nI_clamp (by omega)]) (fun S2 h3 => ⟨rfl, rfl, ⟨_, rfl⟩, h.stay h2 h3⟩))
  · have hrun : Run bd mb pn (N 3) (N 40 0) (N 40 11) (N 40 13) := Or.inr L
    have h8 := pow8 L.b8
    obtain ⟨q, hq1, hq2⟩ := L.ptN
    refine kX6_byTurns (d := 10) h.1 rfl hrun.c (v := tU pn (fun k => rBits (rThose (rGo (N 40 0) (N 40 11) mb y.toNatClampNeg (rTipN (N 40 13) (nI k) pn)) (nI 9) (nI 9) mb) 8 - rBits (rThose (rGo (N 40 0) (N 40 11) mb y.toNatClampNeg (rTipN (N 40 13) (nI k) pn)) (nI 8) (nI 8) mb) 8) z.toNatClampNeg z.toNatClampNeg 0) (W := (fun k => rBits (rThose (rGo (N 40 0) (N 40 11) mb y.toNatClampNeg (rTipN (N 40 13) (nI k) pn)) (nI 9) (nI 9) mb) 8 - rBits (rThose (rGo (N 40 0) (N 40 11) mb y.toNatClampNeg (rTipN (N 40 13) (nI k) pn)) (nI 8) (nI 8) mb) 8)) (fun _ _ => ⟨q, by omega, hq2⟩) ?_ ?_ (by rintro n rfl hn; rw [nI_clamp (by omega)]) (fun N2 h2 => ⟨rfl, ?_⟩)
    · rintro m rfl hm _ _ pt hpt U k hk -
      have L1 := ((L.like U).swAll (nI k)).go m
      simp only [nI_clamp (show m < 2 ^ 31 by omega)]
      rw [many_sim L1 L.b6, many_sim L1 L.b6]
    · intro pt hpt k hk
      have e := and_mod hk (hpt.symm.trans hq2)
      rw [e]
      show rBits _ 8 - rBits _ 8 = rBits _ 8 - rBits _ 8
      rw [L.pt hq2 (by omega) hk, L.pt hq2 (by omega) hk]
    · have e40 : N2 40 = N 40 := h2 40 (by decide) (by decide)
      refine V_in1 40 (kX7_byTurns (d := 12) h.1.mo (mb := mb) (pn := pn) (by rw [e40]; exact hrun.r) (v := tU pn (fun k => rBits (rThose (rGo (N 40 0) (N 40 11) mb y.toNatClampNeg (rTipN (N 40 13) (nI k) pn)) (nI 9) (nI 9) mb) 8 - rBits (rThose (rGo (N 40 0) (N 40 11) mb y.toNatClampNeg (rTipN (N 40 13) (nI k) pn)) (nI 8) (nI 8) mb) 8) z.toNatClampNeg z.toNatClampNeg 0) (W := (fun k => rBits (rThose (rGo (N 40 0) (N 40 11) mb y.toNatClampNeg (rTipN (N 40 13) (nI k) pn)) (nI 9) (nI 9) mb) 8 - rBits (rThose (rGo (N 40 0) (N 40 11) mb y.toNatClampNeg (rTipN (N 40 13) (nI k) pn)) (nI 8) (nI 8) mb) 8)) ?_ (by rintro n rfl hn; rw [nI_clamp (by omega)]) (fun S2 h3 => ⟨rfl, rfl, ⟨_, rfl⟩, h.stay h2 h3⟩))
      rw [e40]
      rintro m rfl hm - - k hk f hf
      have L1 := (L.swAll (nI k)).go m
      have L2 := ((L.ag hf).swAll (nI k)).go m
      simp only [nI_clamp (show m < 2 ^ 31 by omega)]
      rw [← many_sim L1 L.b6, ← many_sim L1 L.b6, ← many_sim L2 L.b6, ← many_sim L2 L.b6]
theorem b_drawn (h : Rl bd Y G N (N 40)) : Both bd 16 cX6_drawn 4 [some (xR 0 0), some (xI z), some (xI x), some (xI y)] cX7_drawn 10 [some (xR 40 0), some (xI z), some (xI x), some (xI y), none, none, none, none, none, none] Y G N := by
  obtain ⟨mb, pn, hrun, -⟩ := h.2.2.2.2.2.2
  refine kX6_drawn (d := 12) h.1 rfl hrun.c (v := rDraw (N 40 0) (N 40 11) mb pn (if y = 0 then nI 9 else nI 8) z.toNatClampNeg x.toNatClampNeg (N 40 13) (nI 0)) ?_ (fun N2 h2 => ⟨rfl, ?_⟩)
  · rintro n sd rfl hn rfl hs hm - U
    have L := (hrun.m (m := 0) hm).like U
    rw [nI_clamp (show n < 2 ^ 31 by omega), nI_clamp (show sd < 2 ^ 31 by omega)]
    exact draw_sim hm _ n sd (nI 0) L.ok L.sim
  · have e40 : N2 40 = N 40 := h2 40 (by decide) (by decide)
    refine V_in1 40 (kX7_drawn (d := 12) h.1.mo (mb := mb) (pn := pn) (by rw [e40]; exact hrun.r) (v := rDraw (N 40 0) (N 40 11) mb pn (if y = 0 then nI 9 else nI 8) z.toNatClampNeg x.toNatClampNeg (N 40 13) (nI 0)) ?_ (fun S2 h3 => ⟨rfl, rfl, ⟨_, rfl⟩, h.stay h2 h3⟩))
    rw [e40]
    rintro n sd rfl hn rfl hs hm - f hf
    have L := hrun.m (m := 0) hm
    rw [nI_clamp (show n < 2 ^ 31 by omega), nI_clamp (show sd < 2 ^ 31 by omega)]
    exact (draw_sim hm _ n sd (nI 0) L.ok (L.ag hf).sim).symm.trans (draw_sim hm _ n sd (nI 0) L.ok L.sim)
end BB
