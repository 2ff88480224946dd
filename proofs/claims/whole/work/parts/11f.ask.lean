section BB
variable {bd : Nat} {Y : xY} {G : xG} {N : xM} {a b2 e l x y z v w : Int32}
theorem in2 {y : Int32} (h : rIn y (nI 0) (nI 2)) : y = 0 ∨ y = nI 1 ∨ y = nI 2 := by
  obtain ⟨k, -, h2, rfl⟩ := rIn_k h (by decide) (by decide)
  have : k = 0 ∨ k = 1 ∨ k = 2 := by omega
  rcases this with rfl | rfl | rfl
  · exact Or.inl rfl
  · exact Or.inr (Or.inl rfl)
  · exact Or.inr (Or.inr rfl)
theorem mrb_sim {mb pn m : Nat} {T S : xT} (L : Live bd mb pn T (S 0) (S 11) (S 13)) (hm : m < mb) (y : Int32) : cMrb T m y = if rIn y (nI 0) (nI 2) then rMrb S m y else -1000001 := by
  have e6 : T 6 m = S 13 (55 + m) := L.sim.1.m (c := 6) rfl hm
  have e7 : T 7 m = S 13 (61 + m) := L.sim.1.m (c := 7) rfl hm
  have e8 : T 8 m = S 13 (49 + m) := L.sim.1.m (c := 8) rfl hm
  unfold cMrb rMrb
  rw [e6, e7, e8]
  by_cases h : rIn y (nI 0) (nI 2)
  · rw [if_pos h]
    rcases in2 h with rfl | rfl | rfl
    · rw [if_pos (by decide), if_pos rfl]
    · rw [if_neg (by decide), if_pos (by decide), if_neg (by decide), if_pos rfl]
    · rw [if_neg (by decide), if_neg (by decide), if_pos (by decide), if_neg (by decide), if_neg (by decide)]
  · rw [if_neg h, if_neg (fun q => h (by rw [q]; decide)), if_neg (fun q => h (by rw [q]; decide)), if_neg (fun q => h (by rw [q]; decide))]
theorem b_marble (h : Rl bd Y G N (N 40)) : Both bd 16 cX6_marble 3 [some (xR 0 0), some (xI a), some (xI y)] cX7_marble 3 [some (xR 40 0), some (xI a), some (xI y)] Y G N := by
  obtain ⟨mb, pn, hrun, -⟩ := h.2.2.2.2.2.2
  refine kX6_marble (d := 14) h.1 rfl hrun.c (v := if rIn y (nI 0) (nI 2) then rMrb (N 40) a.toNatClampNeg y else -1000001) ?_ ⟨rfl, V_in1 40 (kX7_marble (d := 14) h.1.mo hrun.r (v := rMrb (N 40) a.toNatClampNeg y) ?_ ⟨rfl, ?_, ⟨_, rfl⟩, h.stay (cStay.rf _) (rKeep.rf _)⟩)⟩
  · rintro m rfl hm
    rw [nI_clamp (by have := hrun.c.b6; omega)]
    exact mrb_sim (hrun.m hm) hm y
  · rintro m rfl hm
    rw [nI_clamp (by have := hrun.c.b6; omega)]
  · by_cases c1 : rIn a (nI 0) (nI mb - nI 1)
    · by_cases c2 : rIn y (nI 0) (nI 2)
      · rw [if_pos ⟨c1, c2⟩, if_pos c1, if_pos c2]
      · rw [if_neg (fun q => c2 q.2), if_pos c1, if_neg c2]
    · rw [if_neg (fun q => c1 q.1), if_neg c1]
theorem pce_sim {mb pn p : Nat} {T S : xT} (L : Live bd mb pn T (S 0) (S 11) (S 13)) (hp : p < pn) (y : Int32) : cPce T mb p y = rPce S mb p y := by
  unfold cPce rPce
  have e10 : T 10 p = S 13 (1 + p) := L.sim.1.p (c := 10) rfl hp
  have e11 : T 11 p = S 13 (9 + p) := L.sim.1.p (c := 11) rfl hp
  have e12 : T 12 p = S 13 (17 + p) := L.sim.1.p (c := 12) rfl hp
  have e13 : T 13 p = S 13 (25 + p) := L.sim.1.p (c := 13) rfl hp
  have e14 : T 14 p = S 13 (33 + p) := L.sim.1.p (c := 14) rfl hp
  have e15 : T 15 p = S 13 (41 + p) := L.sim.1.p (c := 15) rfl hp
  rw [e10, e11, e12, e13, e14, e15, bits_sim L.sim.1 _ _ mb (Nat.le_refl _)]
theorem b_piece (h : Rl bd Y G N (N 40)) : Both bd 16 cX6_piece 3 [some (xR 0 0), some (xI a), some (xI y)] cX7_piece 3 [some (xR 40 0), some (xI a), some (xI y)] Y G N := by
  obtain ⟨mb, pn, hrun, -⟩ := h.2.2.2.2.2.2
  refine kX6_piece (d := 14) h.1 rfl hrun.c (v := rPce (N 40) mb a.toNatClampNeg y) ?_ ⟨rfl, V_in1 40 (kX7_piece (d := 14) h.1.mo hrun.r (v := rPce (N 40) mb a.toNatClampNeg y) ?_ ⟨rfl, rfl, ⟨_, rfl⟩, h.stay (cStay.rf _) (rKeep.rf _)⟩)⟩
  · rintro p rfl hp
    rw [nI_clamp (by have := hrun.c.b6; omega)]
    exact pce_sim (hrun.p hp) hp y
  · rintro p rfl hp
    rw [nI_clamp (by have := hrun.c.b6; omega)]
theorem b_kind (h : Rl bd Y G N (N 40)) : Both bd 16 cX6_kind 2 [some (xR 0 0), some (xI a)] cX7_kind 2 [some (xR 40 0), some (xI a)] Y G N := by
  obtain ⟨mb, pn, hrun, -⟩ := h.2.2.2.2.2.2
  refine kX6_kind (d := 14) h.1 rfl hrun.c (v := N 40 11 a.toNatClampNeg) ?_ ⟨rfl, V_in1 40 (kX7_kind (d := 14) h.1.mo hrun.r (v := N 40 11 a.toNatClampNeg) ?_ ⟨rfl, rfl, ⟨_, rfl⟩, h.stay (cStay.rf _) (rKeep.rf _)⟩)⟩
  · rintro p rfl hp
    rw [nI_clamp (by have := hrun.c.b6; omega)]
    exact (hrun.p hp).sim.1.2.2.2.2.2.2.1 p hp
  · rintro p rfl hp
    rw [nI_clamp (by have := hrun.c.b6; omega)]
theorem held_sim {mb pn : Nat} {T : xT} {o so f : Nat → Int32} (L : Live bd mb pn T o so f) : tBits T (nI 20) (nI 27) mb = rThose f (nI 20) (nI 28) mb := by
  have h6 := L.b6
  have h8 := L.b8
  rw [bits_sim L.sim.1 _ _ mb (Nat.le_refl _), those_bN f _ _ mb h6, those_bN f _ _ mb h6]
  congr 1
  refine bN_cong mb (fun i hi => ?_)
  have e8 : T 8 i = f (49 + i) := L.sim.1.m (c := 8) rfl hi
  obtain ⟨q, h1, h2⟩ := L.ok.pl i hi
  rw [← e8, h1]
  have key : ∀ q, q < 28 → decide (rIn (nI q) (nI 20) (nI 27)) = decide (rIn (nI q) (nI 20) (nI 28)) := by decide +kernel
  have h3 : q < pn ∨ q = 8 ∨ q = 9 ∨ q = 10 ∨ (20 ≤ q ∧ q < 20 + pn) := h2
  exact key q (by omega)
theorem std_sim {mb pn : Nat} {T S : xT} (L : Live bd mb pn T (S 0) (S 11) (S 13)) (y : Int32) : cStd T mb y = rStd S mb y := by
  unfold cStd rStd
  rw [L.sim.1.1, held_sim L, bits_sim L.sim.1 _ _ mb (Nat.le_refl _), bits_sim L.sim.1 _ _ mb (Nat.le_refl _), bits_sim L.sim.1 _ _ mb (Nat.le_refl _), bits_sim L.sim.1 _ _ mb (Nat.le_refl _)]
theorem b_stand (h : Rl bd Y G N (N 40)) : Both bd 16 cX6_stand 2 [some (xR 0 0), some (xI y)] cX7_stand 2 [some (xR 40 0), some (xI y)] Y G N := by
  obtain ⟨mb, pn, hrun, -⟩ := h.2.2.2.2.2.2
  refine kX6_stand (d := 14) h.1 rfl hrun.c (v := rStd (N 40) mb y) ?_ ⟨rfl, V_in1 40 (kX7_stand (d := 14) h.1.mo hrun.r (v := rStd (N 40) mb y) ?_ ⟨rfl, rfl, ⟨_, rfl⟩, h.stay (cStay.rf _) (rKeep.rf _)⟩)⟩
  · intro hm _
    exact std_sim (hrun.m (m := 0) hm) y
  · intro _ _
    rfl
theorem cIsK_no {y : Int32} (h : ∀ k, k < 6 → y ≠ nI k) : ∀ n one, cIsK y n one = 0
  | 0, _ => rfl
  | n + 1, one => by
    rw [cIsK]
    split
    · rfl
    · split
      · rfl
      · split
        · rename_i c1 c2 c3
          exfalso
          rcases pk_ix one (n := 6) (by decide) with q | q | ⟨k, q1, q2⟩
          · exact c1 q
          · exact c2 q
          · exact h k q1 (c3 ▸ q2)
        · exact cIsK_no h n _
theorem isK_eq {s : Nat} (h1 : 1 ≤ s) (h5 : s ≤ 5) (y : Int32) : (if cIsK y 6 (nI s) = 0 then nI 3 else 0) = if rIsA (nI s) y then 0 else nI 3 := by
  by_cases h : ∀ k, k < 6 → y ≠ nI k
  · rw [cIsK_no h, if_pos rfl, if_neg]
    rintro (q | q | ⟨q, -⟩ | ⟨q, -⟩)
    · exact h 0 (by decide) q
    · exact h s (by omega) q
    · exact h 1 (by decide) q
    · exact h 4 (by decide) q
  · have h2 : ∃ k, k < 6 ∧ y = nI k := Classical.byContradiction fun q => h (fun k hk e => q ⟨k, hk, e⟩)
    obtain ⟨k, hk, rfl⟩ := h2
    have key : ∀ s, s < 6 → 1 ≤ s → ∀ k, k < 6 → (if cIsK (nI k) 6 (nI s) = 0 then nI 3 else 0) = if rIsA (nI s) (nI k) then 0 else nI 3 := by decide +kernel
    exact key s (by omega) h1 k hk
/-- a finding, on both sides -/
theorem Rl.fd {Y : xY} {G G2 : xG} {C C2 : xM} {S2 : xT} (h : Rl bd Y G C (C 40)) (hG : xSt Y G2) {v : Int32} (hC : ∀ r, r ≠ 0 → r ≠ 30 → r ≠ 31 → r ≠ 40 → C2 r = C r) (h0 : C2 0 = va_up (C 0) 0 (upd (C 0 0) 9 v)) (hk : rKeep (rFound (C 40) v) S2) : Rl bd Y G2 (va_up C2 40 S2) (va_up C2 40 S2 40) := by
  rw [va_up_eq]
  refine h.st hG (fun r h0 h1 h2 h3 => by rw [va_up_no _ _ h3]; exact hC r h0 h1 h2 h3) (fun c a1 a2 a3 a4 a5 a6 a7 a8 => ?_) (fun k h1 h2 => ?_) ?_ ?_
  · rw [hk.1 c a1 a2 a3 a4 a5 a6 a7 a8]
    exact va_up_no _ _ a1
  · rw [hk.2 k h1]
    unfold rFound
    rw [va_up_eq, upd_no _ _ h2]
  · rw [va_up_no _ _ (by decide), h0, va_up_eq, upd_no _ _ (by decide)]
  · rw [va_up_no _ _ (by decide), h0, va_up_eq, upd_eq, hk.2 3 (by decide)]
    unfold rFound
    rw [va_up_eq, upd_eq]
theorem cFd_no (N : xM) (v : Int32) {r : Nat} (h : r ≠ 0) : cFd N v r = N r := by unfold cFd; rw [va_up_no _ _ h]
theorem cFd_0 (N : xM) (v : Int32) : cFd N v 0 = va_up (N 0) 0 (upd (N 0 0) 9 v) := by unfold cFd; rw [va_up_eq]
theorem Rl.fd1 {Y : xY} {G : xG} {C : xM} (h : Rl bd Y G C (C 40)) (v : Int32) : Rl bd Y G (va_up (cFd C v) 40 (rFound (C 40) v)) (va_up (cFd C v) 40 (rFound (C 40) v) 40) := h.fd h.1 (fun r h0 _ _ _ => cFd_no C v h0) (cFd_0 C v) (rKeep.rf _)
theorem b_as (h : Rl bd Y G N (N 40)) : Both bd 16 cX6_as 3 [some (xR 0 0), some (xI a), some (xI y)] cX7_as 3 [some (xR 40 0), some (xI a), some (xI y)] Y G N := by
  obtain ⟨mb, pn, hrun, -⟩ := h.2.2.2.2.2.2
  refine kX6_as (d := 14) h.1 rfl hrun.c (kd := (if rIsA (N 40 11 a.toNatClampNeg) y then 0 else nI 3)) ?_ ⟨rfl, ?_⟩
  · rintro p rfl hp
    obtain ⟨s, h1, h2, h3⟩ := (hrun.p hp).2.2.2.2.2.1 p hp
    have e9 := (hrun.p hp).sim.1.2.2.2.2.2.2.1 p hp
    rw [nI_clamp (by have := hrun.c.b6; omega), ← e9, h3, isK_eq h1 h2]
  · by_cases c : rIn a (nI 0) (nI pn - nI 1) ∧ rIn y (nI 0) (nI 5)
    · rw [if_pos c, if_pos c]
      refine V_in1 40 (kX7_as (d := 14) h.1.mo (by rw [cFd_no N _ (by decide)]; exact hrun.r) (kd := (if rIsA (N 40 11 a.toNatClampNeg) y then 0 else nI 3)) ?_ ?_)
      · rintro p rfl hp
        rw [cFd_no N _ (by decide), nI_clamp (by have := hrun.c.b6; omega)]
      · rw [if_pos c, if_pos c, cFd_no N _ (by decide)]
        exact ⟨rfl, rfl, ⟨_, rfl⟩, h.fd1 _⟩
    · rw [if_neg c, if_neg c]
      refine V_in1 40 (kX7_as (d := 14) h.1.mo hrun.r (kd := (if rIsA (N 40 11 a.toNatClampNeg) y then 0 else nI 3)) ?_ ?_)
      · rintro p rfl hp
        rw [nI_clamp (by have := hrun.c.b6; omega)]
      · rw [if_neg c, if_neg c]
        exact ⟨rfl, rfl, ⟨_, rfl⟩, h.stay (cStay.rf _) (rKeep.rf _)⟩
theorem rows_sim {R S : xT} (h : RRow R S) : ∀ n, n ≤ 8 → cPres R n = rRows (S 2) n
  | 0, _ => rfl
  | n + 1, hn => by
    rw [cPres, rRows, rows_sim h n (by omega), h.2.1 n (by omega)]
    rcases h.1 n (by omega) with q | ⟨k, hk, q⟩
    · rw [q, if_pos rfl, if_pos (by decide)]
      exact (Int32.add_zero _).symm
    · rw [q, if_neg (fun e => ?_), if_neg (nI_pos (by omega))]
      · rfl
      · have := nI_pos (n := k) (by omega)
        rw [e] at this
        exact this (by decide)
theorem b_count (h : Rl bd Y G N (N 40)) : Both bd 16 cX6_count 2 [some (xR 0 0), some (xI y)] cX7_count 2 [some (xR 40 0), some (xI y)] Y G N := by
  obtain ⟨a1, a2, ⟨tn, t1, t2, t3, -⟩, a4, a5, a6, mb, pn, hrun, hact⟩ := id h
  refine kX6_count (d := 13) h.1 hrun.c ⟨rfl, V_in1 40 (kX7_count (d := 14) h.1.mo hrun.r ⟨rfl, ?_, ⟨_, rfl⟩, h.stay (cStay.rf _) (rKeep.rf _)⟩)⟩
  obtain ⟨nx, mn, -, -, -, b4, b5, -⟩ := hact
  have e1 : N 3 0 1 = N 40 13 0 ∧ jBC (tBits (N 3) (nI 0) (nI 7) mb) = rBits (rThose (N 40 13) (nI 0) (nI 7) mb) 8 ∧ tWent (N 3) pn = rWentA (N 40 13) pn := by
    rcases hrun with ⟨rfl, rfl, e, -⟩ | L
    · refine ⟨e, ?_, rfl⟩
      show jBC (nI 0) = rBits (nI 0) 8
      decide +kernel
    · exact ⟨L.sim.2, many_sim L.sim.1 L.b6 _ _, went_sim L.sim.1 pn (Nat.le_refl _)⟩
  unfold cCnt rCnt
  rw [rows_sim a2 8 (Nat.le_refl _), e1.1, e1.2.1, e1.2.2, b4, b5, t2, t3]
theorem b_trace (h : Rl bd Y G N (N 40)) : Both bd 16 cX6_trace 2 [some (xR 0 0), some (xI a)] cX7_trace 2 [some (xR 40 0), some (xI a)] Y G N := by
  obtain ⟨k, h16, k1, k2, k3⟩ := h.2.2.2.2.1
  refine kX6_trace (d := 15) h.1 k1 h16 ⟨rfl, V_in1 40 (kX7_trace (d := 15) h.1.mo k2 h16 (v := N 40 20 a.toNatClampNeg) ?_ ⟨rfl, ?_, ⟨_, rfl⟩, h.stay (cStay.rf _) (rKeep.rf _)⟩)⟩
  · rintro p rfl hp
    rw [nI_clamp (by omega)]
  · unfold cTrace
    rw [k1]
    by_cases c : rIn a (nI 0) (nI k - nI 1)
    · obtain ⟨m, hm, rfl⟩ := rIn_m c (by omega)
      rw [if_pos c, if_neg (nI_pos (by omega)), if_neg (fun q => ?_), nI_clamp (by omega), k3 m hm]
      exact absurd (Int32.lt_of_lt_of_le ((nI_ltI (by omega) (by omega)).mpr hm) q) Int32.lt_irrefl
    · rw [if_neg c]
      rcases pk_ix a (n := k) (by omega) with q | q | ⟨m, q1, rfl⟩
      · rw [if_pos q]
      · by_cases c0 : a < 0
        · rw [if_pos c0]
        · rw [if_neg c0, if_pos q]
      · exfalso
        apply c
        refine ⟨nI_pos (by omega), ?_⟩
        rw [pk_sub (by omega)]
        exact fun q => absurd ((nI_ltI (by omega) (by omega)).mp q) (by omega)
theorem RTrc.app : ∀ (l : List Int32) (A S : xT) (k : Nat), A 0 1 = nI k → S 0 20 = nI k → (∀ j, j < k → A 1 j = S 20 j) → k + l.length ≤ 16 → RTrc (cApp A k l) (rApp S k l)
  | [], A, S, k, h1, h2, h3, h4 => ⟨k, h4, h1, h2, h3⟩
  | v :: l, A, S, k, h1, h2, h3, h4 => by
    rw [cApp, rApp]
    refine RTrc.app l _ _ _ (cB1_k A k v) (rB1_k S k v) (fun j hj => ?_) (by rw [List.length_cons] at h4; omega)
    unfold cB1 rB1
    rw [va_up_no _ _ (by decide), va_up_eq, va_up_no _ _ (by decide), va_up_eq]
    by_cases e : j = k
    · rw [e, upd_eq, upd_eq]
    · rw [upd_no _ _ e, upd_no _ _ e]
      exact h3 j (by omega)
theorem rApp_o : ∀ (l : List Int32) (S : xT) (k : Nat) {q : Nat}, q ≠ 20 → rApp S k l 0 q = S 0 q
  | [], _, _, _, _ => rfl
  | v :: l, S, k, q, h => by
    rw [rApp, rApp_o l _ _ h]
    unfold rB1
    rw [va_up_eq, upd_no _ _ h, va_up_no _ _ (by decide)]
theorem askL_len (s : Nat) (y : Int32) : (cAskL s y).length ≤ 16 := by
  unfold cAskL cSizeL cMarkL
  repeat' split
  all_goals decide
theorem ask_row {T S : xT} {p s : Nat} {y : Int32} (e10 : T 10 p = S 13 (1 + p)) (e14 : T 14 p = S 13 (33 + p)) : cAsk (rowT S) p s y = cAsk T p s y := by
  have r10 : rowT S 10 p = T 10 p := e10.symm
  have r14 : rowT S 14 p = T 14 p := e14.symm
  unfold cAsk cSize cMark
  rw [r10, r14]
theorem b_ask (h : Rl bd Y G N (N 40)) : Both bd 16 cX6_ask 3 [some (xR 0 0), some (xI a), some (xI y)] cX7_ask 3 [some (xR 40 0), some (xI a), some (xI y)] Y G N := by
  obtain ⟨mb, pn, hrun, hact⟩ := h.2.2.2.2.2.2
  have hso : ∀ p, p < pn → ∃ s, 1 ≤ s ∧ s ≤ 5 ∧ N 3 9 p = nI s := fun p hp => (hrun.p hp).2.2.2.2.2.1 p hp
  have hso2 : ∀ p, p < pn → N 3 9 p = N 40 11 p := fun p hp => (hrun.p hp).sim.1.2.2.2.2.2.2.1 p hp
  refine kX6_ask (d := 8) h.1 rfl hrun.c hso (fun c => ⟨rfl, ?_⟩) (fun p s c ha hp hs u1 u5 => ⟨rfl, ?_⟩)
  · refine V_in1 40 (kX7_ask (d := 10) h.1.mo hrun.r (fun p hp => by rw [← hso2 p hp]; exact hso p hp) (fun _ => ⟨rfl, rfl, ⟨_, rfl⟩, h.stay (cStay.rf _) (rKeep.rf _)⟩) (fun p s c2 => absurd c2 c))
  · refine V_in1 40 (kX7_ask (d := 10) h.1.mo (mb := mb) (pn := pn) hrun.r (fun p hp => ?_) (fun c2 => absurd c c2) (fun p' s' _ ha' hp' hs' v1 v5 => ?_))
    · show ∃ s, 1 ≤ s ∧ s ≤ 5 ∧ N 40 11 p = nI s
      rw [← hso2 p hp]; exact hso p hp
    · have b8 := hrun.c.b6
      have e1 : p' = p := nI_inj (by omega) (by omega) (ha'.symm.trans ha)
      subst e1
      have e2 : s' = s := nI_inj (by omega) (by omega) (hs'.symm.trans ((hso2 p' hp).symm.trans hs))
      subst e2
      have L := hrun.p hp
      have e4 := ask_row (T := N 3) (S := N 40) (s := s') (y := y) (L.sim.1.p (c := 10) rfl hp) (L.sim.1.p (c := 14) rfl hp)
      show Y = Y ∧ some (xI (cAsk (rowT (N 40)) p' s' y)) = _ ∧ _
      rw [e4]
      refine ⟨rfl, rfl, ⟨_, rfl⟩, ?_⟩
      rw [va_up_eq]
      obtain ⟨a1, a2, a3, a4, a5, a6, -⟩ := h
      have ho : ∀ q, q ≠ 20 → rApp (va_up (N 40) 0 (upd (N 40 0) 20 (nI 0))) 0 (cAskL s' y) 0 q = N 40 0 q := fun q hq => by rw [rApp_o _ _ _ hq, va_up_eq, upd_no _ _ hq]
      have hc : ∀ c, c ≠ 0 → c ≠ 20 → rApp (va_up (N 40) 0 (upd (N 40 0) 20 (nI 0))) 0 (cAskL s' y) c = N 40 c := fun c h0 h1 => by rw [rApp_no _ _ _ h0 h1, va_up_no _ _ h0]
      have hoe : oEq (rApp (va_up (N 40) 0 (upd (N 40 0) 20 (nI 0))) 0 (cAskL s' y) 0) (N 40 0) := ⟨ho 7 (by decide), ho 8 (by decide), ho 9 (by decide), ho 11 (by decide)⟩
      refine ⟨a1, a2.cg (hc 1 (by decide) (by decide)) (hc 2 (by decide) (by decide)) (hc 3 (by decide) (by decide)), a3.cg (ho 5 (by decide)) (hc 5 (by decide) (by decide)), ⟨a4.1.trans (ho 6 (by decide)).symm, a4.2.trans (ho 3 (by decide)).symm⟩, ?_, fun k hk => ?_, mb, pn, ?_, ?_⟩
      · rw [va_up_no _ _ (by decide), va_up_eq]
        refine RTrc.app _ _ _ 0 (by rw [va_up_eq, upd_eq]) (by rw [va_up_eq, upd_eq]) (fun j hj => absurd hj (by omega)) (by have := askL_len s' y; omega)
      · rw [va_up_no _ _ (by omega), va_up_no _ _ (by omega)]
        exact (a6 k hk).cg (hc 16 (by decide) (by decide)) (hc 17 (by decide) (by decide))
      · rw [va_up_no _ _ (by decide), va_up_no _ _ (by decide), hc 11 (by decide) (by decide), hc 13 (by decide) (by decide)]
        exact hrun.oeq hoe
      · exact hact.cg (fun r h1 h2 => by rw [va_up_no _ _ (by omega), va_up_no _ _ (by omega)]) (ho 14 (by decide)) hoe (hc 11 (by decide) (by decide)) (hc 14 (by decide) (by decide))
end BB
