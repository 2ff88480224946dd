section BB
variable {bd : Nat} {Y : xY} {G : xG} {N : xM} {a b2 e l x y z v w : Int32}
/-- all but the run and its acts -/
def Rz (bd : Nat) (Y : xY) (G : xG) (C : xM) (S : xT) : Prop := xSt Y G ∧ RRow (C 1) S ∧ RTape (C 2) S ∧ (C 0 0 8 = S 0 6 ∧ C 0 0 9 = S 0 3) ∧ RTrc (C 32) S ∧ ∀ k, k < 2 → RImg bd (C (33 + k)) S k
def RA (bd : Nat) (C : xM) (S : xT) (mb pn nx mn : Nat) : Prop := nx < 24 ∧ mn ≤ 24 ∧ C 5 0 1 = nI nx ∧ C 5 0 2 = nI mn ∧ S 0 14 = nI mn ∧ ∀ i, i < mn → Live bd mb pn (C (6 + (nx + 24 - mn + i) % 24)) (S 0) (S 11) (fun j => S 14 (67 * i + j))
theorem Rl.toZ {Y : xY} {G : xG} {C : xM} {S : xT} (h : Rl bd Y G C S) : Rz bd Y G C S := ⟨h.1, h.2.1, h.2.2.1, h.2.2.2.1, h.2.2.2.2.1, h.2.2.2.2.2.1⟩
theorem Rz.toL {Y : xY} {G : xG} {C : xM} {S : xT} {mb pn nx mn : Nat} (h : Rz bd Y G C S) (hr : Run bd mb pn (C 3) (S 0) (S 11) (S 13)) (ha : RA bd C S mb pn nx mn) : Rl bd Y G (va_up C 40 S) (va_up C 40 S 40) := by
  rw [va_up_eq]
  have hC : ∀ r, r ≠ 40 → va_up C 40 S r = C r := fun r h => va_up_no _ _ h
  refine ⟨h.1, ?_, ?_, ?_, ?_, ?_, mb, pn, ?_, nx, mn, ?_⟩
  · rw [hC 1 (by decide)]; exact h.2.1
  · rw [hC 2 (by decide)]; exact h.2.2.1
  · rw [hC 0 (by decide)]; exact h.2.2.2.1
  · rw [hC 32 (by decide)]; exact h.2.2.2.2.1
  · intro k hk
    rw [hC (33 + k) (by omega)]; exact h.2.2.2.2.2 k hk
  · rw [hC 3 (by decide)]; exact hr
  · obtain ⟨a1, a2, a3, a4, a5, a6⟩ := ha
    refine ⟨a1, a2, by rw [hC 5 (by decide)]; exact a3, by rw [hC 5 (by decide)]; exact a4, a5, fun i hi => ?_⟩
    rw [hC _ (by omega)]
    exact a6 i hi
/-- nothing of it is touched -/
theorem Rz.cg {Y : xY} {G : xG} {C C2 : xM} {S S2 : xT} (h : Rz bd Y G C S) (hC : ∀ r, r < 3 ∨ r = 32 ∨ r = 33 ∨ r = 34 → C2 r = C r) (hS : ∀ c, c = 1 ∨ c = 2 ∨ c = 3 ∨ c = 5 ∨ c = 16 ∨ c = 17 ∨ c = 20 → S2 c = S c) (h0 : ∀ k, k = 3 ∨ k = 5 ∨ k = 6 ∨ k = 20 → S2 0 k = S 0 k) : Rz bd Y G C2 S2 := by
  obtain ⟨a1, a2, a3, a4, a5, a6⟩ := h
  refine ⟨a1, ?_, ?_, ?_, ?_, ?_⟩
  · rw [hC 1 (by decide)]; exact a2.cg (hS 1 (by decide)) (hS 2 (by decide)) (hS 3 (by decide))
  · rw [hC 2 (by decide)]; exact a3.cg (h0 5 (by decide)) (hS 5 (by decide))
  · rw [hC 0 (by decide), h0 6 (by decide), h0 3 (by decide)]; exact a4
  · rw [hC 32 (by decide)]; exact a5.cg (h0 20 (by decide)) (hS 20 (by decide))
  · intro k hk
    rw [hC (33 + k) (by omega)]; exact (a6 k hk).cg (hS 16 (by decide)) (hS 17 (by decide))
theorem note_at (S : xT) {a i j : Nat} (ha : a ≤ 24) (hi : i < nxA a) (hj : j < 67) : rNotes S a 14 (67 * i + j) = if i + 1 = nxA a then S 13 j else if a = 24 then S 14 (67 * (i + 1) + j) else S 14 (67 * i + j) := by
  unfold rNotes nxA at *
  by_cases c : a = 24
  · rw [if_pos c] at hi ⊢
    rw [if_pos c]
    unfold rN1 rN0
    rw [va_up_no _ _ (by decide), va_up_eq, rBring_at]
    by_cases e : i + 1 = 24
    · rw [if_pos e, if_pos (by omega), va_up_no _ _ (by decide), va_up_no _ _ (by decide)]
      rw [show 0 + (67 * i + j - 67 * 23) = j by omega]
    · rw [if_neg e, if_neg (by omega), if_pos c, va_up_no _ _ (by decide), va_up_eq, rBringI_at _ (by decide), if_pos (by omega), show 67 + (67 * i + j) = 67 * (i + 1) + j by omega]
  · rw [if_neg c] at hi ⊢
    rw [if_neg c]
    unfold rN1
    rw [va_up_no _ _ (by decide), va_up_eq, rBring_at]
    by_cases e : i + 1 = a + 1
    · rw [if_pos e, if_pos (by omega), show 0 + (67 * i + j - 67 * a) = j by omega]
    · rw [if_neg e, if_neg (by omega), if_neg c]
/-- an act is kept, and the run goes on from there -/
theorem RA.keep {C : xM} {S : xT} {mb pn nx mn : Nat} (h : RA bd C S mb pn nx mn) (L : Live bd mb pn (C 3) (S 0) (S 11) (S 13)) (T2 : xT) (f2 : Nat → Int32) : RA bd (va_up (cKp C nx mn) 3 T2) (va_up (rNotes S mn) 13 f2) mb pn ((nx + 1) % 24) (nxA mn) := by
  obtain ⟨a1, a2, a3, a4, a5, a6⟩ := h
  have e5 : va_up (cKp C nx mn) 3 T2 5 = cKeep (C 5) nx mn := by
    rw [va_up_no _ _ (by decide)]
    unfold cKp
    rw [va_up_eq]
  have hS : ∀ c, c ≠ 13 → va_up (rNotes S mn) 13 f2 c = rNotes S mn c := fun c h => va_up_no _ _ h
  refine ⟨by omega, nxA_le a2, by rw [e5, cKeep_1], by rw [e5, cKeep_2 _ _ a2], by rw [hS 0 (by decide), rNotes_a], fun i hi => ?_⟩
  rw [va_up_no _ _ (by omega), hS 0 (by decide), hS 11 (by decide), hS 14 (by decide), rNotes_no S mn (c := 11) (by decide) (by decide)]
  by_cases e : i + 1 = nxA mn
  · have hx : ((nx + 1) % 24 + 24 - nxA mn + i) % 24 = nx := by
      have := nxA_le a2
      omega
    have ec : cKp C nx mn (6 + ((nx + 1) % 24 + 24 - nxA mn + i) % 24) = tLike (C (6 + nx)) (C 3) := by
      rw [hx]
      unfold cKp
      rw [va_up_no _ _ (by omega), va_up_eq]
    rw [ec]
    refine ((L.like _).oeq (rNotes_eq S mn)).ag (fun j hj => ?_)
    show rNotes S mn 14 (67 * i + j) = S 13 j
    rw [note_at S a2 hi hj, if_pos e]
  · unfold nxA at hi e
    by_cases c : mn = 24
    · rw [if_pos c] at hi e
      have hx : 6 + ((nx + 1) % 24 + 24 - nxA mn + i) % 24 = 6 + (nx + 24 - mn + (i + 1)) % 24 := by
        unfold nxA
        rw [if_pos c]
        omega
      rw [hx, cKp_no C mn (by omega) (by omega)]
      refine ((a6 (i + 1) (by omega)).oeq (rNotes_eq S mn)).ag (fun j hj => ?_)
      show rNotes S mn 14 (67 * i + j) = S 14 (67 * (i + 1) + j)
      rw [note_at S a2 (by unfold nxA; rw [if_pos c]; omega) hj, if_neg (by unfold nxA; rw [if_pos c]; omega), if_pos c]
    · rw [if_neg c] at hi e
      have hx : 6 + ((nx + 1) % 24 + 24 - nxA mn + i) % 24 = 6 + (nx + 24 - mn + i) % 24 := by
        unfold nxA
        rw [if_neg c]
        omega
      rw [hx, cKp_no C mn (by omega) (by omega)]
      refine ((a6 i (by omega)).oeq (rNotes_eq S mn)).ag (fun j hj => ?_)
      show rNotes S mn 14 (67 * i + j) = S 14 (67 * i + j)
      rw [note_at S a2 (by unfold nxA; rw [if_neg c]; omega) hj, if_neg (by unfold nxA; rw [if_neg c]; omega), if_neg c]
theorem Rz.keep {Y : xY} {G : xG} {C : xM} {S : xT} {nx mn : Nat} (h : Rz bd Y G C S) (hn : nx < 24) (T2 : xT) (f2 : Nat → Int32) : Rz bd Y G (va_up (cKp C nx mn) 3 T2) (va_up (rNotes S mn) 13 f2) := h.cg (fun r hr => by rw [va_up_no _ _ (by omega), cKp_no C mn (by omega) (by omega)]) (fun c hc => by rw [va_up_no _ _ (by omega), rNotes_no S mn (by omega) (by omega)]) (fun k hk => by rw [va_up_no _ _ (by decide), rNotes_o S mn (by omega)])
theorem act_end {Y : xY} {G : xG} {C : xM} {S : xT} {mb pn nx mn : Nat} (h : Rz bd Y G C S) (L : Live bd mb pn (C 3) (S 0) (S 11) (S 13)) (ha : RA bd C S mb pn nx mn) {T2 : xT} {f2 : Nat → Int32} (L2 : Live bd mb pn T2 (S 0) (S 11) f2) : Rl bd Y G (va_up (va_up (cKp C nx mn) 3 T2) 40 (va_up (rNotes S mn) 13 f2)) (va_up (va_up (cKp C nx mn) 3 T2) 40 (va_up (rNotes S mn) 13 f2) 40) := by
  refine (h.keep ha.1 T2 f2).toL (mb := mb) (pn := pn) ?_ (ha.keep L T2 f2)
  rw [va_up_eq, va_up_eq, va_up_no _ _ (by decide), va_up_no _ _ (by decide), rNotes_no S mn (c := 11) (by decide) (by decide)]
  exact Or.inr (L2.oeq (rNotes_eq S mn))
theorem cKp_40 (N : xM) {nx : Nat} (hn : nx < 24) (mn : Nat) : cKp N nx mn 40 = N 40 := cKp_no N mn (by decide) (by omega)
theorem rIn_of {m n : Nat} (h : m < n) (hn : n ≤ 8) : rIn (nI m) (nI 0) (nI n - nI 1) := by
  refine ⟨nI_pos (by omega), ?_⟩
  rw [pk_sub (by omega)]
  exact fun q => absurd ((nI_ltI (by omega) (by omega)).mp q) (by omega)
theorem Live.swing {mb pn p : Nat} {T : xT} {o so f : Nat → Int32} (h : Live bd mb pn T o so f) (hp : p < pn) : Live bd mb pn (tSwing T p) o so (upd f (1 + p) (nI 1 - f (1 + p))) := ⟨h.1, h.sim.swing h.ok hp, h.2.2.1, h.ok.swing hp, h.2.2.2.2.cg (tSwing_ne T p (by decide)) (tSwing_ne T p (by decide)) (tSwing_ne T p (by decide)) (tSwing_ne T p (by decide))⟩
theorem tOK.left {mb pn : Nat} {T : xT} (h : tOK mb pn T) {p q : Nat} (hp : p < q) (hq : q ≤ 9) : tOK mb pn (tPut T 11 p (nI q)) := by
  obtain ⟨a1, a2, a3, a4, a5, a6, a7, a8, a9, a10, a11⟩ := h
  refine ⟨a1, a2, a3, a4, a5, a6, a7, ?_, a9, a10, a11⟩
  intro p' hp'
  unfold tPut
  rw [va_up_eq]
  by_cases e : p' = p
  · subst e; rw [upd_eq]; exact ⟨q, rfl, hp, hq⟩
  · rw [upd_no _ _ e]; exact a8 p' hp'
theorem Live.le {mb pn : Nat} {T : xT} {o so f : Nat → Int32} (h : Live bd mb pn T o so f) {p q : Nat} (hp : p < pn) (hq : p < q) (hq9 : q ≤ 9) : Live bd mb pn (tPut T 11 p (nI q)) o so (upd f (9 + p) (nI q)) :=
  ⟨h.1, h.sim.put h.b6 h.b8 (c := 11) (Or.inr ⟨rfl, hp⟩) _, h.2.2.1, h.ok.left hq hq9, h.2.2.2.2⟩
theorem Live.throw {mb pn m q : Nat} {T : xT} {o so f : Nat → Int32} (h : Live bd mb pn T o so f) (hm : m < mb) (ht : tInTray T m) (h1 : 1 ≤ q) (h9 : q ≤ 9) : Live (bd + 9) mb pn (tThrow T m (nI q)) o so (rComes f m (nI q)) := by
  refine ⟨h.1, throw_sim h.sim h.b6 h.b8 hm _, h.2.2.1, h.ok.throw hm ht _, fun j hj => ?_, fun p hp => ?_, h.2.2.2.2.2.2.throw m (nI q)⟩
  · unfold tThrow
    rw [va_up_no _ _ (by decide), va_up_eq, va_up_no _ _ (by decide)]
    by_cases e : j = m
    · rw [e, upd_eq]; exact ⟨q, h1, h9, rfl⟩
    · rw [upd_no _ _ e]; exact h.2.2.2.2.1 j hj
  · unfold tThrow
    rw [va_up_no _ _ (by decide), va_up_no _ _ (by decide), va_up_no _ _ (by decide)]
    exact h.2.2.2.2.2.1 p hp
theorem b_tip (h : Rl bd Y G N (N 40)) : Both bd 16 cX6_tip 2 [some (xR 0 0), some (xI a)] cX7_tip 2 [some (xR 40 0), some (xI a)] Y G N := by
  obtain ⟨mb, pn, hrun, nx, mn, b1, b2, b3, b4, b5, b6⟩ := h.2.2.2.2.2.2
  have hA : RA bd N (N 40) mb pn nx mn := ⟨b1, b2, b3, b4, b5, b6⟩
  refine kX6_tip (d := 13) h.1 rfl hrun.c b3 b1 b4 b2 (fun c => ⟨rfl, ?_⟩) (fun p ha hp => ⟨rfl, ?_⟩)
  · refine V_in1 40 (kX7_tip (d := 14) h.1.mo hrun.r b5 b2 (fun _ => ⟨rfl, rfl, ⟨_, rfl⟩, h.stay (cStay.rf _) (rKeep.rf _)⟩) (fun p ha hp => ?_))
    exfalso
    apply c
    rw [ha]
    exact rIn_of hp hrun.c.b6.2
  · have e40 : va_up (cKp N nx mn) 3 (tSwing (N 3) p) 40 = N 40 := by rw [va_up_no _ _ (by decide), cKp_40 N b1]
    have L := hrun.p hp
    have b8 := L.b8
    refine V_in1 40 ?_
    rw [e40]
    refine kX7_tip (d := 14) h.1.mo hrun.r b5 b2 (fun c => ?_) (fun p' ha' hp' => ?_)
    · exfalso
      apply c
      rw [ha]
      exact rIn_of hp hrun.c.b6.2
    · have e1 : p' = p := nI_inj (by omega) (by omega) (ha'.symm.trans ha)
      subst e1
      refine ⟨rfl, ?_, ⟨_, rfl⟩, act_end h.toZ L hA (L.swing hp)⟩
      have e10 : N 3 10 p' = N 40 13 (1 + p') := L.sim.1.p (c := 10) rfl hp
      unfold tSwing
      rw [va_up_eq, upd_eq, e10]
theorem b_lead (h : Rl bd Y G N (N 40)) : Both bd 16 cX6_lead 6 [some (xR 0 0), some (xI a), some (xI y), some (xI z), none, none] cX7_lead 6 [some (xR 40 0), some (xI a), some (xI y), some (xI z), none, none] Y G N := by
  obtain ⟨mb, pn, hrun, nx, mn, b1, b2, b3, b4, b5, b6⟩ := h.2.2.2.2.2.2
  have hA : RA bd N (N 40) mb pn nx mn := ⟨b1, b2, b3, b4, b5, b6⟩
  have hin : ∀ p q, a = nI p → p < pn → z = nI q → p < q → q ≤ 9 → rIn y (nI 0) (nI 1) → rIn a (nI 0) (nI pn - nI 1) ∧ rIn y (nI 0) (nI 1) ∧ rIn z (a + nI 1) (nI 9) := by
    rintro p q rfl hp rfl hq h9 hy
    refine ⟨rIn_of hp hrun.c.b6.2, hy, ?_, fun w => absurd ((nI_ltI (by omega) (by omega)).mp w) (by omega)⟩
    rw [nI_add]
    exact fun w => absurd ((nI_ltI (by omega) (by omega)).mp w) (by omega)
  have in0 : y = 0 → rIn y (nI 0) (nI 1) := by rintro rfl; decide
  refine kX6_lead (d := 13) h.1 rfl hrun.c b3 b1 b4 b2 (fun c => ⟨rfl, ?_⟩) (fun p q ha hp hz hq h9 hy => ⟨rfl, ?_⟩) (fun p q ha hp hz hq h9 hy hy2 => ⟨rfl, ?_⟩)
  · exact V_in1 40 (kX7_lead (d := 14) h.1.mo hrun.r b5 b2 (fun _ => ⟨rfl, rfl, ⟨_, rfl⟩, h.stay (cStay.rf _) (rKeep.rf _)⟩) (fun p q ha hp hz hq h9 hy => absurd (hin p q ha hp hz hq h9 (in0 hy)) c) (fun p q ha hp hz hq h9 hy hy2 => absurd (hin p q ha hp hz hq h9 hy2) c))
  · have e40 : va_up (cKp N nx mn) 3 (tPut (N 3) 11 p (nI q)) 40 = N 40 := by rw [va_up_no _ _ (by decide), cKp_40 N b1]
    have L := hrun.p hp
    have b8 := L.b8
    refine V_in1 40 ?_
    rw [e40]
    refine kX7_lead (d := 14) h.1.mo hrun.r b5 b2 (fun c => absurd (hin p q ha hp hz hq h9 (in0 hy)) c) (fun p' q' ha' hp' hz' hq' h9' hy' => ?_) (fun p' q' ha' hp' hz' hq' h9' hy' hy2' => ?_)
    · have e_p : p' = p := nI_inj (by omega) (by omega) (ha'.symm.trans ha)
      subst e_p
      have e_q : q' = q := nI_inj (by omega) (by omega) (hz'.symm.trans hz)
      subst e_q
      refine ⟨rfl, ?_, ⟨_, rfl⟩, act_end h.toZ L hA (L.le hp hq h9)⟩
      have e : N 3 11 p' = N 40 13 (9 + p') := L.sim.1.p (c := 11) rfl hp
      rw [e]
    · exact absurd hy hy'
  · have e40 : va_up (cKp N nx mn) 3 (tPut (N 3) 12 p (nI q)) 40 = N 40 := by rw [va_up_no _ _ (by decide), cKp_40 N b1]
    have L := hrun.p hp
    have b8 := L.b8
    refine V_in1 40 ?_
    rw [e40]
    refine kX7_lead (d := 14) h.1.mo hrun.r b5 b2 (fun c => absurd (hin p q ha hp hz hq h9 hy2) c) (fun p' q' ha' hp' hz' hq' h9' hy' => ?_) (fun p' q' ha' hp' hz' hq' h9' hy' hy2' => ?_)
    · exact absurd hy' hy
    · have e_p : p' = p := nI_inj (by omega) (by omega) (ha'.symm.trans ha)
      subst e_p
      have e_q : q' = q := nI_inj (by omega) (by omega) (hz'.symm.trans hz)
      subst e_q
      refine ⟨rfl, ?_, ⟨_, rfl⟩, act_end h.toZ L hA (L.ri hp hq h9)⟩
      have e : N 3 12 p' = N 40 13 (17 + p') := L.sim.1.p (c := 12) rfl hp
      rw [e]
theorem b_again (h : Rl bd Y G N (N 40)) : Both (bd + 9) 16 cX6_again 3 [some (xR 0 0), some (xI a), some (xI z)] cX7_again 3 [some (xR 40 0), some (xI a), some (xI z)] Y G N := by
  obtain ⟨mb, pn, hrun0, nx, mn, b1, b2, b3, b4, b5, b60⟩ := h.2.2.2.2.2.2
  have hrun := hrun0.up (show bd ≤ bd + 9 by omega)
  have hA : RA (bd + 9) N (N 40) mb pn nx mn := ⟨b1, b2, b3, b4, b5, fun i hi => (b60 i hi).up (by omega)⟩
  replace h := h.up (show bd ≤ bd + 9 by omega)
  have hin : ∀ m q, a = nI m → m < mb → z = nI q → 1 ≤ q → q ≤ 9 → rIn a (nI 0) (nI mb - nI 1) ∧ rIn z (nI 1) (nI 9) := by
    rintro m q rfl hm rfl hq h9
    exact ⟨rIn_of hm (by have := hrun.c.b6; omega), fun w => absurd ((nI_ltI (by omega) (by omega)).mp w) (by omega), fun w => absurd ((nI_ltI (by omega) (by omega)).mp w) (by omega)⟩
  refine kX6_again (d := 13) h.1 rfl hrun.c b3 b1 b4 b2 (fun c => ⟨rfl, ?_⟩) (fun m q ha hm hz hq h9 ht => ⟨rfl, ?_⟩) (fun m q ha hm hz hq h9 ht => ⟨rfl, ?_⟩)
  · exact V_in1 40 (kX7_again (d := 14) h.1.mo hrun.r b5 b2 (fun _ => ⟨rfl, rfl, ⟨_, rfl⟩, h.stay (cStay.rf _) (rKeep.rf _)⟩) (fun m q ha hm hz hq h9 => absurd (hin m q ha hm hz hq h9) c) (fun m q ha hm hz hq h9 => absurd (hin m q ha hm hz hq h9) c))
  · have L := hrun.m hm
    have b6 := L.b6
    refine V_in1 40 (kX7_again (d := 14) h.1.mo hrun.r b5 b2 (fun c => absurd (hin m q ha hm hz hq h9) c) (fun _ _ _ _ _ _ _ _ => ⟨rfl, rfl, ⟨_, rfl⟩, h.stay (cStay.rf _) (rKeep.rf _)⟩) (fun m' q' ha' hm' hz' hq' h9' ht' => ?_))
    have e_m : m' = m := nI_inj (by omega) (by omega) (ha'.symm.trans ha)
    subst e_m
    exact absurd ((inTray_sim L.sim.1 hm).mpr ht') ht
  · have e40 : va_up (cKp N nx mn) 3 (tThrow (N 3) m (nI q)) 40 = N 40 := by rw [va_up_no _ _ (by decide), cKp_40 N b1]
    have L := hrun.m hm
    have b6 := L.b6
    refine V_in1 40 ?_
    rw [e40]
    refine kX7_again (d := 14) h.1.mo hrun.r b5 b2 (fun c => absurd (hin m q ha hm hz hq h9) c) (fun m' q' ha' hm' hz' hq' h9' ht' => ?_) (fun m' q' ha' hm' hz' hq' h9' ht' => ?_)
    · have e_m : m' = m := nI_inj (by omega) (by omega) (ha'.symm.trans ha)
      subst e_m
      exact absurd ((inTray_sim L.sim.1 hm).mp ht) ht'
    · have e_m : m' = m := nI_inj (by omega) (by omega) (ha'.symm.trans ha)
      subst e_m
      have e_q : q' = q := nI_inj (by omega) (by omega) (hz'.symm.trans hz)
      subst e_q
      have L2 := (hrun0.m hm).throw hm ht hq h9
      refine ⟨rfl, ?_, ⟨_, rfl⟩, act_end h.toZ L hA L2⟩
      rw [bits_sim L2.sim.1 _ _ mb (Nat.le_refl _)]
theorem cTks_no (mb : Nat) {r : Nat} (hr : 30 ≤ r) : ∀ (n nx mn : Nat) (C : xM), nx < 24 → cTks mb n nx mn C r = C r
  | 0, _, _, _, _ => rfl
  | n + 1, nx, mn, C, h => by
    rw [cTks, cTks_no mb hr n _ _ _ (by omega)]
    unfold cTk1
    rw [va_up_no _ _ (by omega), cKp_no C mn (by omega) (by omega)]
theorem ticks_sim {Y : xY} {G : xG} {mb pn : Nat} : ∀ (n nx mn : Nat) (C : xM) (S : xT), Rz bd Y G C S → Live bd mb pn (C 3) (S 0) (S 11) (S 13) → RA bd C S mb pn nx mn → ∃ nx2 mn2, Rz bd Y G (cTks mb n nx mn C) (rTks mb n mn S) ∧ Live bd mb pn (cTks mb n nx mn C 3) (rTks mb n mn S 0) (rTks mb n mn S 11) (rTks mb n mn S 13) ∧ RA bd (cTks mb n nx mn C) (rTks mb n mn S) mb pn nx2 mn2
  | 0, nx, mn, C, S, h1, h2, h3 => ⟨nx, mn, h1, h2, h3⟩
  | n + 1, nx, mn, C, S, h1, h2, h3 => by
    rw [cTks, rTks]
    have e3 : cKp C nx mn 3 = C 3 := cKp_no C mn (by decide) (by omega)
    have ew : cTk1 C nx mn mb = va_up (cKp C nx mn) 3 (tPass (C 3) mb) := by unfold cTk1; rw [e3]
    have e13 : rNotes S mn 13 = S 13 := rNotes_no S mn (by decide) (by decide)
    have e11 : rNotes S mn 11 = S 11 := rNotes_no S mn (by decide) (by decide)
    rw [ew]
    unfold rTkS
    rw [e11, e13]
    have L := h2.oeq (rNotes_eq S mn)
    refine ticks_sim n _ _ _ _ (h1.keep h3.1 _ _) ?_ (h3.keep h2 _ _)
    rw [va_up_eq, va_up_eq, va_up_no _ _ (by decide), va_up_no _ _ (by decide), e11]
    exact L.pass
theorem b_ticks (h : Rl bd Y G N (N 40)) : Both bd 16 cX6_ticks 3 [some (xR 0 0), some (xI a), none] cX7_ticks 3 [some (xR 40 0), some (xI a), none] Y G N := by
  obtain ⟨mb, pn, hrun, nx, mn, b1, b2, b3, b4, b5, b6⟩ := h.2.2.2.2.2.2
  have hA : RA bd N (N 40) mb pn nx mn := ⟨b1, b2, b3, b4, b5, b6⟩
  have e01 : ¬ nI pn = 0 → N 3 0 1 = N 40 13 0 := fun q => (hrun.z q).sim.2
  refine kX6_ticks (d := 12) h.1 rfl hrun.c b3 b1 b4 b2 (fun c => ⟨rfl, ?_⟩) (fun c c2 => ⟨rfl, ?_⟩) (fun c c2 c3 => ⟨rfl, ?_⟩) (fun n ha h1 h24 c c3 => ⟨rfl, ?_⟩)
  · exact V_in1 40 (kX7_ticks (d := 13) h.1.mo hrun.r b5 b2 (fun _ => ⟨rfl, rfl, ⟨_, rfl⟩, h.stay (cStay.rf _) (rKeep.rf _)⟩) (fun q => absurd c q) (fun q => absurd c q) (fun _ _ _ _ q => absurd c q))
  · refine V_in1 40 (kX7_ticks (d := 13) h.1.mo hrun.r b5 b2 (fun q => absurd q c) (fun _ _ => ⟨rfl, rfl, ⟨_, rfl⟩, h.stay (cStay.rf _) (rKeep.rf _)⟩) (fun _ q => absurd q c2) (fun n ha h1 h24 => ?_))
    exfalso
    apply c2
    rw [ha]
    exact ⟨fun w => absurd ((nI_ltI (by omega) (by omega)).mp w) (by omega), fun w => absurd ((nI_ltI (by omega) (by omega)).mp w) (by omega)⟩
  · rw [e01 c] at c3
    exact V_in1 40 (kX7_ticks (d := 13) h.1.mo hrun.r b5 b2 (fun q => absurd q c) (fun _ q => absurd c2 q) (fun _ _ _ => ⟨rfl, rfl, ⟨_, rfl⟩, h.stay (cStay.rf _) (rKeep.rf _)⟩) (fun n ha h1 h24 _ q => absurd c3 q))
  · rw [e01 c] at c3
    have L := hrun.z c
    have e40 : cTks mb n nx mn N 40 = N 40 := cTks_no mb (by decide) n nx mn N b1
    obtain ⟨nx2, mn2, q1, q2, q3⟩ := ticks_sim n nx mn N (N 40) h.toZ L hA
    refine V_in1 40 ?_
    rw [e40]
    refine kX7_ticks (d := 13) h.1.mo hrun.r b5 b2 (fun q => absurd q c) (fun _ q => ?_) (fun _ _ q => absurd q c3) (fun n' ha' h1' h24' _ _ => ?_)
    · exfalso
      apply q
      rw [ha]
      exact ⟨fun w => absurd ((nI_ltI (by omega) (by omega)).mp w) (by omega), fun w => absurd ((nI_ltI (by omega) (by omega)).mp w) (by omega)⟩
    · have e_n : n' = n := nI_inj (by omega) (by omega) (ha'.symm.trans ha)
      subst e_n
      refine ⟨rfl, ?_, ⟨_, rfl⟩, q1.toL (Or.inr q2) q3⟩
      rw [bits_sim q2.sim.1 _ _ mb (Nat.le_refl _)]
theorem cBack_1 (A : xT) (nx mn : Nat) : cBack A nx mn 0 1 = nI ((nx + 23) % 24) := by unfold cBack; rw [va_up_eq, upd_eq]
theorem cBack_2 (A : xT) (nx mn : Nat) : cBack A nx mn 0 2 = nI (mn - 1) := by unfold cBack cBk1; rw [va_up_eq, upd_no _ _ (by decide), va_up_eq, upd_eq]
theorem b_undo (h : Rl bd Y G N (N 40)) : Both bd 16 cX6_undo 1 [some (xR 0 0)] cX7_undo 1 [some (xR 40 0)] Y G N := by
  obtain ⟨mb, pn, hrun, nx, mn, b1, b2, b3, b4, b5, b6⟩ := h.2.2.2.2.2.2
  have hA : RA bd N (N 40) mb pn nx mn := ⟨b1, b2, b3, b4, b5, b6⟩
  refine kX6_undo (d := 13) h.1 b3 b1 b4 b2 (fun c => ⟨rfl, ?_⟩) (fun c => ⟨rfl, ?_⟩)
  · exact V_in1 40 (kX7_undo (d := 15) h.1.mo b5 b2 (fun _ => ⟨rfl, rfl, ⟨_, rfl⟩, h.stay (cStay.rf _) (rKeep.rf _)⟩) (fun q => absurd c q))
  · have e40 : va_up (va_up N 5 (cBack (N 5) nx mn)) 3 (tLike (N 3) (N (6 + (nx + 23) % 24))) 40 = N 40 := by rw [va_up_no _ _ (by decide), va_up_no _ _ (by decide)]
    refine V_in1 40 ?_
    rw [e40]
    refine kX7_undo (d := 15) h.1.mo b5 b2 (fun q => absurd q c) (fun _ S2 s0 s13 sc => ?_)
    refine ⟨rfl, by rw [cBack_2], ⟨_, rfl⟩, ?_⟩
    have hk : ∀ q, q ≠ 14 → S2 0 q = N 40 0 q := fun q hq => by rw [s0, upd_no _ _ hq]
    have ho : oEq (S2 0) (N 40 0) := ⟨hk 7 (by decide), hk 8 (by decide), hk 9 (by decide), hk 11 (by decide)⟩
    refine Rz.toL (mb := mb) (pn := pn) (nx := (nx + 23) % 24) (mn := mn - 1) (h.toZ.cg (fun r hr => by rw [va_up_no _ _ (by omega), va_up_no _ _ (by omega)]) (fun c hc => sc c (by omega) (by omega)) (fun k hk2 => hk k (by omega))) ?_ ?_
    · rw [va_up_eq, sc 11 (by decide) (by decide)]
      have L := b6 (mn - 1) (by omega)
      rw [show (nx + 24 - mn + (mn - 1)) % 24 = (nx + 23) % 24 by omega] at L
      exact Or.inr (((L.like _).oeq ho).ag (fun j hj => s13 j hj))
    · refine ⟨by omega, by omega, ?_, ?_, by rw [s0, upd_eq], fun i hi => ?_⟩
      · rw [va_up_no _ _ (by decide), va_up_eq, cBack_1]
      · rw [va_up_no _ _ (by decide), va_up_eq, cBack_2]
      · rw [va_up_no _ _ (by omega), va_up_no _ _ (by omega), sc 11 (by decide) (by decide), sc 14 (by decide) (by decide), show ((nx + 23) % 24 + 24 - (mn - 1) + i) % 24 = (nx + 24 - mn + i) % 24 by omega]
        exact (b6 i (by omega)).oeq ho
end BB
