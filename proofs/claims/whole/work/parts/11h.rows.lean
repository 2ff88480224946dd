section BB
variable {bd : Nat} {Y : xY} {G : xG} {N : xM} {a b2 e l x y z v w : Int32}
theorem in7 {r : Nat} (h : r < 8) : rIn (nI r) (nI 0) (nI 7) := ⟨nI_pos (by omega), fun q => absurd ((nI_ltI (by omega) (by omega)).mp q) (by omega)⟩
theorem Rl.rw {Y : xY} {G : xG} {N : xM} {R2 S2 : xT} (h : Rl bd Y G N (N 40)) (hrow : RRow R2 S2) (s0 : S2 0 = upd (N 40 0) 3 0) (hs : ∀ c, c ≠ 0 → c ≠ 1 → c ≠ 2 → c ≠ 3 → S2 c = N 40 c) : Rl bd Y G (va_up (cFd (va_up N 1 R2) 0) 40 S2) (va_up (cFd (va_up N 1 R2) 0) 40 S2 40) := by
  rw [va_up_eq]
  obtain ⟨a1, a2, a3, a4, a5, a6, mb, pn, a7, a8⟩ := h
  have hC : ∀ r, r ≠ 0 → r ≠ 1 → r ≠ 40 → va_up (cFd (va_up N 1 R2) 0) 40 S2 r = N r := fun r h0 h1 h2 => by rw [va_up_no _ _ h2, cFd_no _ _ h0, va_up_no _ _ h1]
  have hk : ∀ q, q ≠ 3 → S2 0 q = N 40 0 q := fun q hq => by rw [s0, upd_no _ _ hq]
  have ho : oEq (S2 0) (N 40 0) := ⟨hk 7 (by decide), hk 8 (by decide), hk 9 (by decide), hk 11 (by decide)⟩
  refine ⟨a1, ?_, ?_, ⟨?_, ?_⟩, ?_, ?_, mb, pn, ?_, ?_⟩
  · rw [va_up_no _ _ (by decide), cFd_no _ _ (by decide), va_up_eq]
    exact hrow
  · rw [hC 2 (by decide) (by decide) (by decide)]
    exact a3.cg (hk 5 (by decide)) (hs 5 (by decide) (by decide) (by decide) (by decide))
  · rw [va_up_no _ _ (by decide), cFd_0, va_up_eq, upd_no _ _ (by decide), va_up_no _ _ (by decide), hk 6 (by decide)]
    exact a4.1
  · rw [va_up_no _ _ (by decide), cFd_0, va_up_eq, upd_eq, s0, upd_eq]
  · rw [hC 32 (by decide) (by decide) (by decide)]
    exact a5.cg (hk 20 (by decide)) (hs 20 (by decide) (by decide) (by decide) (by decide))
  · intro k hk
    rw [hC (33 + k) (by omega) (by omega) (by omega)]
    exact (a6 k hk).cg (hs 16 (by decide) (by decide) (by decide) (by decide)) (hs 17 (by decide) (by decide) (by decide) (by decide))
  · rw [hC 3 (by decide) (by decide) (by decide), hs 11 (by decide) (by decide) (by decide) (by decide), hs 13 (by decide) (by decide) (by decide) (by decide)]
    exact a7.oeq ho
  · exact a8.cg (fun r h1 h2 => hC r (by omega) (by omega) (by omega)) (hk 14 (by decide)) ho (hs 11 (by decide) (by decide) (by decide) (by decide)) (hs 14 (by decide) (by decide) (by decide) (by decide))
theorem cMake_2 (R : xT) (j : Nat) (l n : Int32) : cMake R j l n 2 = upd (R 2) j l := by unfold cMake; rw [va_up_no _ _ (by omega), va_up_no _ _ (by decide), va_up_eq]
theorem cMake_3 (R : xT) (j : Nat) (l n : Int32) : cMake R j l n 3 = upd (R 3) j n := by unfold cMake; rw [va_up_no _ _ (by omega), va_up_eq, va_up_no _ _ (by decide)]
theorem cMake_r (R : xT) (j : Nat) (l n : Int32) : cMake R j l n (10 + j) = xFill (R (10 + j)) (nI 0) 40 := by unfold cMake; rw [va_up_eq, va_up_no _ _ (by omega), va_up_no _ _ (by omega)]
theorem cMake_o (R : xT) {j q : Nat} (h : q ≠ j) (l n : Int32) : cMake R j l n (10 + q) = R (10 + q) := by unfold cMake; rw [va_up_no _ _ (by omega), va_up_no _ _ (by omega), va_up_no _ _ (by omega)]
theorem RRow.make {R S S2 : xT} (h : RRow R S) {r k l : Nat} (hr : r < 8) (hk : k ≤ 40) (hl : l ≤ 2) (s1 : S2 1 = upd (S 1) r (nI l)) (s2 : S2 2 = upd (S 2) r (nI k)) (s3 : ∀ j, j < k → S2 3 (40 * r + j) = nI 0) (s4 : ∀ q, q < 40 * r ∨ 40 * r + 40 ≤ q → S2 3 q = S 3 q) : RRow (cMake R r (nI l) (nI k)) S2 := by
  obtain ⟨a1, a2, a3, a4⟩ := h
  refine ⟨fun q hq => ?_, fun q hq => ?_, fun q hq hne => ?_, fun q k' j hq he hk' hj => ?_⟩
  · rw [s2]
    by_cases e : q = r
    · rw [e, upd_eq]; exact Or.inr ⟨k, hk, rfl⟩
    · rw [upd_no _ _ e]; exact a1 q hq
  · rw [cMake_3, s2]
    by_cases e : q = r
    · rw [e, upd_eq, upd_eq]
    · rw [upd_no _ _ e, upd_no _ _ e]; exact a2 q hq
  · rw [cMake_3] at hne
    rw [cMake_2, s1]
    by_cases e : q = r
    · rw [e, upd_eq, upd_eq]; exact ⟨rfl, l, hl, rfl⟩
    · rw [upd_no _ _ e] at hne
      rw [upd_no _ _ e, upd_no _ _ e]; exact a3 q hq hne
  · rw [cMake_3] at he
    by_cases e : q = r
    · subst e
      rw [upd_eq] at he
      have e2 := nI_inj (by omega) (by omega) he
      subst e2
      rw [cMake_r, s3 j hj]
      unfold xFill
      rw [if_pos (by omega)]
    · rw [upd_no _ _ e] at he
      rw [cMake_o R e, s4 _ (by omega)]
      exact a4 q k' j hq he hk' hj
theorem b_row (h : Rl bd Y G N (N 40)) : Both bd 16 cX6_row 4 [some (xR 0 0), some (xI a), some (xI l), some (xI z)] cX7_row 5 [some (xR 40 0), some (xI a), some (xI l), some (xI z), none] Y G N := by
  refine kX6_row (d := 14) h.1 (fun c => ⟨rfl, ?_⟩) (fun c hz => ⟨rfl, ?_⟩) (fun r k c ha hr hz hk => ⟨rfl, ?_⟩)
  · exact V_in1 40 (kX7_row (d := 14) h.1.mo (fun _ => ⟨rfl, rfl, ⟨_, rfl⟩, h.stay (cStay.rf _) (rKeep.rf _)⟩) (fun c2 => absurd c2 c) (fun r k c2 => absurd c2 c))
  · refine V_in1 40 (kX7_row (d := 14) h.1.mo (fun c2 => absurd c c2) (fun _ _ => ⟨rfl, rfl, ⟨_, rfl⟩, h.fd1 _⟩) (fun r k _ _ _ e hk => ?_))
    rw [e] at hz
    exact absurd hz (nI_pos (by omega))
  · refine V_in1 40 (kX7_row (d := 14) h.1.mo (fun c2 => absurd c c2) (fun _ q => ?_) (fun r' k' _ ha' hr' hz' hk' S2 s0 s1 s2 s3 s4 s5 => ?_))
    · rw [hz] at q
      exact absurd q (nI_pos (by omega))
    · have e1 : r' = r := nI_inj (by omega) (by omega) (ha'.symm.trans ha)
      have e2 : k' = k := nI_inj (by omega) (by omega) (hz'.symm.trans hz)
      subst e1 e2
      obtain ⟨l2, -, hl2, rfl⟩ := rIn_k c.2.1 (by decide) (by decide)
      exact ⟨rfl, rfl, ⟨_, rfl⟩, h.rw (h.2.1.make hr hk hl2 s1 s2 s3 s4) s0 s5⟩
theorem RRow.drop {R S S2 : xT} (h : RRow R S) {r : Nat} (s1 : S2 1 = S 1) (s2 : S2 2 = upd (S 2) r (-1)) (s3 : S2 3 = S 3) : RRow (va_up R 3 (upd (R 3) r (-1))) S2 := by
  obtain ⟨a1, a2, a3, a4⟩ := h
  refine ⟨fun q hq => ?_, fun q hq => ?_, fun q hq hne => ?_, fun q k' j hq he hk' hj => ?_⟩
  · rw [s2]
    by_cases e : q = r
    · rw [e, upd_eq]; exact Or.inl rfl
    · rw [upd_no _ _ e]; exact a1 q hq
  · rw [va_up_eq, s2]
    by_cases e : q = r
    · rw [e, upd_eq, upd_eq]
    · rw [upd_no _ _ e, upd_no _ _ e]; exact a2 q hq
  · rw [va_up_eq] at hne
    rw [va_up_no _ _ (by decide), s1]
    by_cases e : q = r
    · rw [e, upd_eq] at hne; exact absurd rfl hne
    · rw [upd_no _ _ e] at hne
      exact a3 q hq hne
  · rw [va_up_eq] at he
    rw [va_up_no _ _ (by omega), s3]
    by_cases e : q = r
    · rw [e, upd_eq] at he
      have h1 := nI_pos (n := k') (by omega)
      rw [← he] at h1
      exact absurd (by decide) h1
    · rw [upd_no _ _ e] at he
      exact a4 q k' j hq he hk' hj
theorem b_drop (h : Rl bd Y G N (N 40)) : Both bd 16 cX6_drop 2 [some (xR 0 0), some (xI a)] cX7_drop 3 [some (xR 40 0), some (xI a), none] Y G N := by
  have hrow := h.2.1
  refine kX6_drop (d := 14) h.1 (fun c => ⟨rfl, ?_⟩) (fun r ha hr hz => ⟨rfl, ?_⟩) (fun r ha hr hz => ⟨rfl, ?_⟩)
  · exact V_in1 40 (kX7_drop (d := 14) h.1.mo (fun _ => ⟨rfl, rfl, ⟨_, rfl⟩, h.stay (cStay.rf _) (rKeep.rf _)⟩) (fun r ha hr => absurd (ha ▸ in7 hr) c) (fun r ha hr => absurd (ha ▸ in7 hr) c))
  · refine V_in1 40 (kX7_drop (d := 14) h.1.mo (fun c2 => absurd (ha ▸ in7 hr) c2) (fun _ _ _ _ => ⟨rfl, rfl, ⟨_, rfl⟩, h.fd1 _⟩) (fun r' ha' hr' hz' => ?_))
    have e1 : r' = r := nI_inj (by omega) (by omega) (ha'.symm.trans ha)
    subst e1
    exact absurd ((hrow.neg hr).mp hz) hz'
  · refine V_in1 40 (kX7_drop (d := 14) h.1.mo (fun c2 => absurd (ha ▸ in7 hr) c2) (fun r' ha' hr' hz' => ?_) (fun r' ha' hr' hz' S2 s0 s2 s5 => ?_))
    · have e1 : r' = r := nI_inj (by omega) (by omega) (ha'.symm.trans ha)
      subst e1
      exact absurd ((hrow.neg hr).mpr hz') hz
    · have e1 : r' = r := nI_inj (by omega) (by omega) (ha'.symm.trans ha)
      subst e1
      refine ⟨rfl, ?_, ⟨_, rfl⟩, h.rw (hrow.drop (s5 1 (by decide) (by decide)) s2 (s5 3 (by decide) (by decide))) s0 (fun c h0 h1 h2 h3 => s5 c h0 h2)⟩
      rw [hrow.2.1 r' hr]
      rfl
theorem RRow.put {R S S2 : xT} (h : RRow R S) {r j : Nat} (hr : r < 8) (hj : j < 40) {v : Int32} (s1 : S2 1 = S 1) (s2 : S2 2 = S 2) (s3 : S2 3 = upd (S 3) (40 * r + j) v) : RRow (va_up R (10 + r) (upd (R (10 + r)) j v)) S2 := by
  obtain ⟨a1, a2, a3, a4⟩ := h
  refine ⟨fun q hq => ?_, fun q hq => ?_, fun q hq hne => ?_, fun q k' i hq he hk' hi => ?_⟩
  · rw [s2]; exact a1 q hq
  · rw [va_up_no _ _ (by omega), s2]; exact a2 q hq
  · rw [va_up_no _ _ (by omega)] at hne
    rw [va_up_no _ _ (by omega), s1]; exact a3 q hq hne
  · rw [va_up_no _ _ (by omega)] at he
    have := a4 q k' i hq he hk' hi
    rw [s3]
    by_cases e : q = r
    · subst e
      rw [va_up_eq]
      by_cases e2 : i = j
      · rw [e2, upd_eq, upd_eq]
      · rw [upd_no _ _ e2, upd_no _ _ (by omega)]; exact this
    · rw [va_up_no _ _ (by omega), upd_no _ _ (by omega)]; exact this
theorem RRow.cut {R S : xT} (h : RRow R S) {r : Nat} (hr : r < 8) (h0 : ¬ R 3 r = -1) (v : Int32) : cCut (R 2 r) v = rCut (S 1 r) v := by
  obtain ⟨e, l, hl, e2⟩ := h.2.2.1 r hr h0
  rw [e, e2, cut_eq hl]
theorem b_set (h : Rl bd Y G N (N 40)) : Both bd 16 cX6_set 5 [some (xR 0 0), some (xI a), some (xI x), some (xI v), none] cX7_set 4 [some (xR 40 0), some (xI a), some (xI x), some (xI v)] Y G N := by
  have hrow := h.2.1
  refine kX6_set (d := 14) h.1 hrow.sz (fun c => ⟨rfl, ?_⟩) (fun r ha hr hne => ⟨rfl, ?_⟩) (fun r j ha hr hx hj he => ⟨rfl, ?_⟩)
  · exact V_in1 40 (kX7_set (d := 14) h.1.mo hrow.1 (fun _ => ⟨rfl, rfl, ⟨_, rfl⟩, h.stay (cStay.rf _) (rKeep.rf _)⟩) (fun r ha hr => absurd (ha ▸ in7 hr) c) (fun r ha hr => absurd (ha ▸ in7 hr) c) (fun r j len ha hr => absurd (ha ▸ in7 hr) c))
  · have hcf : cFnd (N 1) (nI r) x (nI 1) = if N 1 3 r = -1 then nI 1 else if cHas (N 1) r x (nI 1) then 0 else nI 2 := by
      unfold cFnd
      rw [nI_clamp (by omega)]
    by_cases c : N 1 3 r = -1
    · rw [if_pos c] at hcf
      rw [hcf]
      refine V_in1 40 (kX7_set (d := 14) h.1.mo hrow.1 (fun c2 => absurd (ha ▸ in7 hr) c2) (fun _ _ _ _ => ⟨rfl, rfl, ⟨_, rfl⟩, h.fd1 _⟩) (fun r' ha' hr' hz' => ?_) (fun r' j len ha' hr' hx hj hl hz' => ?_))
      · have e1 : r' = r := nI_inj (by omega) (by omega) (ha'.symm.trans ha)
        subst e1
        exact absurd ((hrow.neg hr).mp c) hz'
      · have e1 : r' = r := nI_inj (by omega) (by omega) (ha'.symm.trans ha)
        subst e1
        have hz2 : N 40 2 r' = nI len := hz'
        rw [hrow.2.1 r' hr, hz2] at c
        have h1 := nI_pos (n := len) (by omega)
        rw [c] at h1
        exact absurd (by decide) h1
    · rw [if_neg c] at hcf
      by_cases c2 : cHas (N 1) r x (nI 1)
      · rw [if_pos c2] at hcf
        exact absurd hcf hne
      · rw [if_neg c2] at hcf
        rw [hcf]
        refine V_in1 40 (kX7_set (d := 14) h.1.mo hrow.1 (fun c2 => absurd (ha ▸ in7 hr) c2) (fun r' ha' hr' hz' => ?_) (fun _ _ _ _ _ => ⟨rfl, rfl, ⟨_, rfl⟩, h.fd1 _⟩) (fun r' j len ha' hr' hx hj hl hz' => ?_))
        · have e1 : r' = r := nI_inj (by omega) (by omega) (ha'.symm.trans ha)
          subst e1
          exact absurd ((hrow.neg hr).mpr hz') c
        · have e1 : r' = r := nI_inj (by omega) (by omega) (ha'.symm.trans ha)
          subst e1
          have hz2 : N 40 2 r' = nI len := hz'
          exfalso
          apply c2
          rw [hrow.has hr c, hz2, hx]
          refine ⟨nI_pos (by omega), by decide, fun q => absurd ((nI_ltI (by omega) (by omega)).mp q) (by omega), ?_⟩
          rw [pk_sub (by omega)]
          exact fun q => absurd ((nI_ltI (by omega) (by omega)).mp q) (by omega)
  · rw [hrow.fq hr] at he
    obtain ⟨j', m, len, e1, e2, hlen, h1, h2⟩ := hrow.pl hr he
    have hm : 1 = m := nI_inj (by omega) (by omega) e2
    have e3 : j = j' := nI_inj (by omega) (by omega) e1
    subst hm e3
    have hsz2 : N 40 2 r = nI len := by rw [← hrow.2.1 r hr]; exact hlen
    have h0 : ¬ N 1 3 r = -1 := by
      intro q
      have q2 := (hrow.neg hr).mp q
      rw [hsz2] at q2
      exact absurd q2 (nI_pos (by omega))
    refine V_in1 40 (kX7_set (d := 14) h.1.mo hrow.1 (fun c2 => absurd (ha ▸ in7 hr) c2) (fun r' ha' hr' hz' => ?_) (fun r' ha' hr' hz' hx' => ?_) (fun r' i len' ha' hr' hx' hj' hl' hz' S2 s0 s3 s5 => ?_))
    · have e1 : r' = r := nI_inj (by omega) (by omega) (ha'.symm.trans ha)
      subst e1
      exact absurd ((hrow.neg hr).mpr hz') h0
    · have e1 : r' = r := nI_inj (by omega) (by omega) (ha'.symm.trans ha)
      subst e1
      exfalso
      apply hx'
      show rIn x (nI 0) (N 40 2 r' - nI 1)
      rw [hx, hsz2, pk_sub (by omega)]
      exact ⟨nI_pos (by omega), fun q => absurd ((nI_ltI (by omega) (by omega)).mp q) (by omega)⟩
    · have e1 : r' = r := nI_inj (by omega) (by omega) (ha'.symm.trans ha)
      have e2 : i = j := nI_inj (by omega) (by omega) (hx'.symm.trans hx)
      subst e1 e2
      have ec := hrow.cut hr h0 v
      rw [ec]
      exact ⟨rfl, rfl, ⟨_, rfl⟩, h.rw (hrow.put hr hj (s5 1 (by decide) (by decide)) (s5 2 (by decide) (by decide)) s3) s0 (fun c h0 h1 h2 h3 => s5 c h0 h3)⟩
theorem RRow.cpy {R S S2 : xT} (h : RRow R S) {ra rb i j n la lb : Nat} (hra : ra < 8) (hrb : rb < 8) (ea : R 3 ra = nI la) (h1 : i + n ≤ la) (h2 : la ≤ 40) (h3 : j + n ≤ lb) (h4 : lb ≤ 40) (s1 : S2 1 = S 1) (s2 : S2 2 = S 2) (s3 : ∀ t, t < n → S2 3 (40 * rb + j + t) = S 3 (40 * ra + i + t)) (s4 : ∀ q, (∀ t, t < n → q ≠ 40 * rb + j + t) → S2 3 q = S 3 q) : RRow (va_up R (10 + rb) (va_cpy (R (10 + ra)) (R (10 + rb)) i j n)) S2 := by
  obtain ⟨a1, a2, a3, a4⟩ := h
  refine ⟨fun q hq => ?_, fun q hq => ?_, fun q hq hne => ?_, fun q k' m hq he hk' hm => ?_⟩
  · rw [s2]; exact a1 q hq
  · rw [va_up_no _ _ (by omega), s2]; exact a2 q hq
  · rw [va_up_no _ _ (by omega)] at hne
    rw [va_up_no _ _ (by omega), s1]; exact a3 q hq hne
  · rw [va_up_no _ _ (by omega)] at he
    have old := a4 q k' m hq he hk' hm
    by_cases e : q = rb
    · subst e
      rw [va_up_eq]
      unfold va_cpy
      by_cases c : j ≤ m ∧ m < j + n
      · rw [if_pos c]
        have := s3 (m - j) (by omega)
        rw [show 40 * q + j + (m - j) = 40 * q + m by omega] at this
        rw [this, a4 ra la (i + (m - j)) hra ea h2 (by omega), Nat.add_assoc]
      · rw [if_neg c, s4 _ (fun t ht => by omega)]; exact old
    · rw [va_up_no _ _ (by omega), s4 _ (fun t ht => by omega)]; exact old
theorem b_copy (h : Rl bd Y G N (N 40)) : Both bd 16 cX6_copy 6 [some (xR 0 0), some (xI a), some (xI x), some (xI e), some (xI y), some (xI z)] cX7_copy 9 [some (xR 40 0), some (xI a), some (xI x), some (xI e), some (xI y), some (xI z), none, none, none] Y G N := by
  have hrow := h.2.1
  refine kX6_copy (d := 14) h.1 hrow.sz (fun c => ⟨rfl, ?_⟩) (fun ra rb ha hra he hrb hz => ⟨rfl, ?_⟩) (fun ra rb ha hra he hrb hza hzb hl => ⟨rfl, ?_⟩) (fun ra rb ha hra he hrb hza hzb hl hp => ⟨rfl, ?_⟩) (fun ra rb i j n ha hra he hrb hx hy hz hin hjn hza hzb hl hp => ⟨rfl, ?_⟩)
  · exact V_in1 40 (kX7_copy (d := 14) h.1.mo hrow.1 (fun _ => ⟨rfl, rfl, ⟨_, rfl⟩, h.stay (cStay.rf _) (rKeep.rf _)⟩) (fun ra rb ha hra he hrb => absurd (And.intro (ha ▸ in7 hra) (he ▸ in7 hrb)) c) (fun ra rb ha hra he hrb => absurd (And.intro (ha ▸ in7 hra) (he ▸ in7 hrb)) c) (fun ra rb ha hra he hrb => absurd (And.intro (ha ▸ in7 hra) (he ▸ in7 hrb)) c) (fun ra rb i j n la lb ha hra he hrb => absurd (And.intro (ha ▸ in7 hra) (he ▸ in7 hrb)) c))
  · have hneg : N 40 2 ra < 0 ∨ N 40 2 rb < 0 := hz.imp (hrow.neg hra).mp (hrow.neg hrb).mp
    refine V_in1 40 (kX7_copy (d := 14) h.1.mo hrow.1 (fun c => absurd (And.intro (ha ▸ in7 hra) (he ▸ in7 hrb)) c) (fun _ _ _ _ _ _ _ => ⟨rfl, rfl, ⟨_, rfl⟩, h.fd1 _⟩) (fun ra' rb' ha' hra' he' hrb' z1 z2 => ?_) (fun ra' rb' ha' hra' he' hrb' z1 z2 => ?_) (fun ra' rb' i j n la lb ha' hra' he' hrb' _ _ _ z1 z2 => ?_))
    · have e1 : ra' = ra := nI_inj (by omega) (by omega) (ha'.symm.trans ha)
      have e2 : rb' = rb := nI_inj (by omega) (by omega) (he'.symm.trans he)
      subst e1 e2
      exact (hneg.elim z1 z2).elim
    · have e1 : ra' = ra := nI_inj (by omega) (by omega) (ha'.symm.trans ha)
      have e2 : rb' = rb := nI_inj (by omega) (by omega) (he'.symm.trans he)
      subst e1 e2
      exact (hneg.elim z1 z2).elim
    · have e1 : ra' = ra := nI_inj (by omega) (by omega) (ha'.symm.trans ha)
      have e2 : rb' = rb := nI_inj (by omega) (by omega) (he'.symm.trans he)
      subst e1 e2
      have z3 : N 40 2 ra' = nI la := z1
      have z4 : N 40 2 rb' = nI lb := z2
      intro q1 q2 q3 q4
      rw [z3, z4] at hneg
      exact (hneg.elim (nI_pos (by omega)) (nI_pos (by omega))).elim
  · have na : ¬ N 40 2 ra < 0 := fun q => hza ((hrow.neg hra).mpr q)
    have nb : ¬ N 40 2 rb < 0 := fun q => hzb ((hrow.neg hrb).mpr q)
    have la := (hrow.2.2.1 ra hra hza).1
    have lb := (hrow.2.2.1 rb hrb hzb).1
    refine V_in1 40 (kX7_copy (d := 14) h.1.mo hrow.1 (fun c => absurd (And.intro (ha ▸ in7 hra) (he ▸ in7 hrb)) c) (fun ra' rb' ha' hra' he' hrb' z1 => ?_) (fun _ _ _ _ _ _ _ _ _ => ⟨rfl, rfl, ⟨_, rfl⟩, h.fd1 _⟩) (fun ra' rb' ha' hra' he' hrb' z1 z2 z3 => ?_) (fun ra' rb' i j n la2 lb2 ha' hra' he' hrb' _ _ _ z1 z2 _ _ _ _ z3 => ?_))
    · have e1 : ra' = ra := nI_inj (by omega) (by omega) (ha'.symm.trans ha)
      have e2 : rb' = rb := nI_inj (by omega) (by omega) (he'.symm.trans he)
      subst e1 e2
      exact (z1.elim na nb).elim
    · have e1 : ra' = ra := nI_inj (by omega) (by omega) (ha'.symm.trans ha)
      have e2 : rb' = rb := nI_inj (by omega) (by omega) (he'.symm.trans he)
      subst e1 e2
      exact absurd (la.trans (Eq.trans z3 lb.symm)) hl
    · have e1 : ra' = ra := nI_inj (by omega) (by omega) (ha'.symm.trans ha)
      have e2 : rb' = rb := nI_inj (by omega) (by omega) (he'.symm.trans he)
      subst e1 e2
      exact absurd (la.trans (Eq.trans z3 lb.symm)) hl
  · have na : ¬ N 40 2 ra < 0 := fun q => hza ((hrow.neg hra).mpr q)
    have nb : ¬ N 40 2 rb < 0 := fun q => hzb ((hrow.neg hrb).mpr q)
    have la := (hrow.2.2.1 ra hra hza).1
    have lb := (hrow.2.2.1 rb hrb hzb).1
    have hp2 : ¬ (rPart x z (N 40 2 ra) ∧ rPart y z (N 40 2 rb)) := fun q => hp ⟨(hrow.has hra hza _ _).mpr q.1, (hrow.has hrb hzb _ _).mpr q.2⟩
    refine V_in1 40 (kX7_copy (d := 14) h.1.mo hrow.1 (fun c => absurd (And.intro (ha ▸ in7 hra) (he ▸ in7 hrb)) c) (fun ra' rb' ha' hra' he' hrb' z1 => ?_) (fun ra' rb' ha' hra' he' hrb' z1 z2 z3 => ?_) (fun _ _ _ _ _ _ _ _ _ _ => ⟨rfl, rfl, ⟨_, rfl⟩, h.fd1 _⟩) (fun ra' rb' i j n la2 lb2 ha' hra' he' hrb' hx hy hz z1 z2 w1 w2 w3 w4 z3 => ?_))
    · have e1 : ra' = ra := nI_inj (by omega) (by omega) (ha'.symm.trans ha)
      have e2 : rb' = rb := nI_inj (by omega) (by omega) (he'.symm.trans he)
      subst e1 e2
      exact (z1.elim na nb).elim
    · have e1 : ra' = ra := nI_inj (by omega) (by omega) (ha'.symm.trans ha)
      have e2 : rb' = rb := nI_inj (by omega) (by omega) (he'.symm.trans he)
      subst e1 e2
      exact absurd (la.symm.trans (Eq.trans hl lb)) z3
    · have e1 : ra' = ra := nI_inj (by omega) (by omega) (ha'.symm.trans ha)
      have e2 : rb' = rb := nI_inj (by omega) (by omega) (he'.symm.trans he)
      subst e1 e2
      exfalso
      apply hp2
      have z4 : N 40 2 ra' = nI la2 := z1
      have z5 : N 40 2 rb' = nI lb2 := z2
      rw [z4, z5, hx, hy, hz]
      refine ⟨⟨nI_pos (by omega), nI_pos (by omega), fun q => absurd ((nI_ltI (by omega) (by omega)).mp q) (by omega), ?_⟩, nI_pos (by omega), nI_pos (by omega), fun q => absurd ((nI_ltI (by omega) (by omega)).mp q) (by omega), ?_⟩
      · rw [pk_sub (by omega)]
        exact fun q => absurd ((nI_ltI (by omega) (by omega)).mp q) (by omega)
      · rw [pk_sub (by omega)]
        exact fun q => absurd ((nI_ltI (by omega) (by omega)).mp q) (by omega)
  · have na : ¬ N 40 2 ra < 0 := fun q => hza ((hrow.neg hra).mpr q)
    have nb : ¬ N 40 2 rb < 0 := fun q => hzb ((hrow.neg hrb).mpr q)
    have la := (hrow.2.2.1 ra hra hza).1
    have lb := (hrow.2.2.1 rb hrb hzb).1
    refine V_in1 40 (kX7_copy (d := 14) h.1.mo hrow.1 (fun c => absurd (And.intro (ha ▸ in7 hra) (he ▸ in7 hrb)) c) (fun ra' rb' ha' hra' he' hrb' z1 => ?_) (fun ra' rb' ha' hra' he' hrb' z1 z2 z3 => ?_) (fun ra' rb' ha' hra' he' hrb' z1 z2 z3 z4 => ?_) (fun ra' rb' i' j' n' la2 lb2 ha' hra' he' hrb' hx' hy' hz' z1 z2 w1 w2 w3 w4 z3 S2 s0 s3 s4 s5 => ?_))
    · have e1 : ra' = ra := nI_inj (by omega) (by omega) (ha'.symm.trans ha)
      have e2 : rb' = rb := nI_inj (by omega) (by omega) (he'.symm.trans he)
      subst e1 e2
      exact (z1.elim na nb).elim
    · have e1 : ra' = ra := nI_inj (by omega) (by omega) (ha'.symm.trans ha)
      have e2 : rb' = rb := nI_inj (by omega) (by omega) (he'.symm.trans he)
      subst e1 e2
      exact absurd (la.symm.trans (Eq.trans hl lb)) z3
    · have e1 : ra' = ra := nI_inj (by omega) (by omega) (ha'.symm.trans ha)
      have e2 : rb' = rb := nI_inj (by omega) (by omega) (he'.symm.trans he)
      subst e1 e2
      exact absurd ⟨(hrow.has hra hza _ _).mp hp.1, (hrow.has hrb hzb _ _).mp hp.2⟩ z4
    · have e1 : ra' = ra := nI_inj (by omega) (by omega) (ha'.symm.trans ha)
      have e2 : rb' = rb := nI_inj (by omega) (by omega) (he'.symm.trans he)
      subst e1 e2
      have e3 : i' = i := nI_inj (by omega) (by omega) (hx'.symm.trans hx)
      have e4 : j' = j := nI_inj (by omega) (by omega) (hy'.symm.trans hy)
      have e5 : n' = n := nI_inj (by omega) (by omega) (hz'.symm.trans hz)
      subst e3 e4 e5
      have z4 : N 40 2 ra' = nI la2 := z1
      exact ⟨rfl, rfl, ⟨_, rfl⟩, h.rw (hrow.cpy hra hrb (by rw [hrow.2.1 ra' hra]; exact z4) w1 w2 w3 w4 (s5 1 (by decide) (by decide)) (s5 2 (by decide) (by decide)) s3 s4) s0 (fun c h0 h1 h2 h3 => s5 c h0 h3)⟩
theorem b_feed (h : Rl bd Y G N (N 40)) : Both bd 16 cX6_feed 2 [some (xR 0 0), some (xI a)] cX7_feed 2 [some (xR 40 0), some (xI a)] Y G N := by
  obtain ⟨n, hn, n1, n2, n3⟩ := h.2.2.1
  refine kX6_feed (d := 14) h.1 n1 hn (fun c => ⟨rfl, ?_⟩) (fun c hf => ⟨rfl, ?_⟩) (fun c hf => ⟨rfl, ?_⟩)
  · exact V_in1 40 (kX7_feed (d := 15) h.1.mo n2 hn (fun _ => ⟨rfl, rfl, ⟨_, rfl⟩, h.stay (cStay.rf _) (rKeep.rf _)⟩) (fun c2 => absurd c2 c) (fun c2 => absurd c2 c))
  · exact V_in1 40 (kX7_feed (d := 15) h.1.mo n2 hn (fun c2 => absurd c c2) (fun _ _ => ⟨rfl, rfl, ⟨_, rfl⟩, h.stay (cStay.rf _) (rKeep.rf _)⟩) (fun _ q => absurd q (by omega)))
  · refine V_in1 40 (kX7_feed (d := 15) h.1.mo n2 hn (fun c2 => absurd c c2) (fun _ q => absurd q (by omega)) (fun _ _ S2 s0 s5 sc => ?_))
    have e1 : cAdd (N 2) n a 0 1 = nI (n + 1) := by
      unfold cAdd
      rw [va_up_eq, upd_eq]
    refine ⟨rfl, by rw [e1], ⟨_, rfl⟩, ?_⟩
    rw [va_up_eq]
    obtain ⟨a1, a2, a3, a4, a5, a6, mb, pn, a7, a8⟩ := h
    have hC : ∀ r, r ≠ 2 → r ≠ 40 → va_up (va_up N 2 (cAdd (N 2) n a)) 40 S2 r = N r := fun r h0 h2 => by rw [va_up_no _ _ h2, va_up_no _ _ h0]
    have hk : ∀ q, q ≠ 5 → S2 0 q = N 40 0 q := fun q hq => by rw [s0, upd_no _ _ hq]
    have hs : ∀ c, c ≠ 0 → c ≠ 5 → S2 c = N 40 c := fun c h0 h5 => sc c h0 h5
    have s5' : S2 5 = upd (N 40 5) n a := s5
    have ho : oEq (S2 0) (N 40 0) := ⟨hk 7 (by decide), hk 8 (by decide), hk 9 (by decide), hk 11 (by decide)⟩
    refine ⟨a1, ?_, ?_, ⟨?_, ?_⟩, ?_, ?_, mb, pn, ?_, ?_⟩
    · rw [hC 1 (by decide) (by decide)]
      exact a2.cg (hs 1 (by decide) (by decide)) (hs 2 (by decide) (by decide)) (hs 3 (by decide) (by decide))
    · rw [va_up_no _ _ (by decide), va_up_eq]
      refine ⟨n + 1, by omega, e1, by rw [s0, upd_eq], fun j hj => ?_⟩
      have e2 : cAdd (N 2) n a 1 = upd (N 2 1) n a := by
        unfold cAdd
        rw [va_up_no _ _ (by decide), va_up_eq]
      rw [e2, s5']
      by_cases e : j = n
      · rw [e, upd_eq, upd_eq]
        refine ⟨rfl, fun q => ?_⟩
        rw [q] at c
        exact absurd c (by decide)
      · rw [upd_no _ _ e, upd_no _ _ e]
        exact n3 j (by omega)
    · rw [hC 0 (by decide) (by decide), hk 6 (by decide)]
      exact a4.1
    · rw [hC 0 (by decide) (by decide), hk 3 (by decide)]
      exact a4.2
    · rw [hC 32 (by decide) (by decide)]
      exact a5.cg (hk 20 (by decide)) (hs 20 (by decide) (by decide))
    · intro k hk
      rw [hC (33 + k) (by omega) (by omega)]
      exact (a6 k hk).cg (hs 16 (by decide) (by decide)) (hs 17 (by decide) (by decide))
    · rw [hC 3 (by decide) (by decide), hs 11 (by decide) (by decide), hs 13 (by decide) (by decide)]
      exact a7.oeq ho
    · exact a8.cg (fun r h1 h2 => hC r (by omega) (by omega)) (hk 14 (by decide)) ho (hs 11 (by decide) (by decide)) (hs 14 (by decide) (by decide))
end BB
