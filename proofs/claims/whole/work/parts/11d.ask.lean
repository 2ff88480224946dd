section BB
variable {bd : Nat} {Y : xY} {G : xG} {N : xM} {a b2 e l x y z v w : Int32}
theorem tReW_cg {π π' : Nat → Nat} {w : Nat → Int32} (T : xT) : ∀ n, (∀ j, j < n → w (π j) = w (π' j)) → tReW π w T n = tReW π' w T n
  | 0, _ => rfl
  | n + 1, h => by rw [tReW, tReW, tReW_cg T n (fun j hj => h j (by omega)), h n (by omega)]
theorem tWt_nn {T : xT} (s : Int32) : ∀ n, n ≤ 6 → (∀ j, j < n → ∃ w, w ≤ 9 ∧ T 6 j = nI w) → ∃ q, q ≤ 9 * n ∧ tWt T s n = nI q
  | 0, _, _ => ⟨0, by omega, rfl⟩
  | n + 1, hn, h => by
    obtain ⟨q, h1, h2⟩ := tWt_nn s n (by omega) (fun j hj => h j (by omega))
    obtain ⟨w, h3, h4⟩ := h n (by omega)
    rw [tWt]
    split
    · exact ⟨q, by omega, h2⟩
    · exact ⟨q + w, by omega, by rw [h2, h4, nI_add]⟩
theorem Live.reW {mb pn : Nat} {T : xT} {o so f : Nat → Int32} (h : Live bd mb pn T o so f) {c : Nat} (hc : c ∈ pL mb) {w s : Nat → Int32} (hw : ∀ j, j < mb → w j = s (55 + j)) (hw2 : ∀ j, j < mb → ∃ k, 1 ≤ k ∧ k ≤ 9 ∧ w j = nI k) : Live bd mb pn (tReW (dg mb c) w T mb) o so (rReW (dg mb c) s f mb) := by
  have hd := (ordC h.1 h.b6).2.1 c hc
  refine ⟨h.1, reW_sim h.sim h.ok _ _ _ (fun j hj => hw _ (hd j hj)) mb (Nat.le_refl _), h.2.2.1, h.ok.reW _ _ mb, fun j hj => ?_, fun p hp => ?_, h.2.2.2.2.2.2.cg (tReW_no _ _ _ (by decide) mb) (tReW_no _ _ _ (by decide) mb)⟩
  · rw [tReW_at _ _ _ mb hj]
    exact hw2 _ (hd j hj)
  · rw [tReW_no _ _ _ (by decide)]
    exact h.2.2.2.2.2.1 p hp
theorem Live.wt {mb pn : Nat} {T : xT} {o so f : Nat → Int32} (h : Live bd mb pn T o so f) : ∀ j, j < mb → T 6 j = f (55 + j) := fun j hj => h.sim.1.m (c := 6) rfl hj
theorem b_order (h : Rl bd Y G N (N 40)) (hbd : 54 + bd ≤ 9999) : Both bd 16 cX6_order 3 [some (xR 0 0), some (xI z), some (xI y)] cX7_order 7 [some (xR 40 0), some (xI z), some (xI y), none, none, none, none] Y G N := by
  obtain ⟨mb, pn, hrun, -⟩ := h.2.2.2.2.2.2
  have hv0 : ∀ c, c ∈ pL mb → 0 ≤ (fun c => tWt (tRunOn mb z.toNatClampNeg (tReW (dg mb c) (N 3 6) (N 3) mb)) (tBits (tRunOn mb z.toNatClampNeg (tReW (dg mb c) (N 3 6) (N 3) mb)) (nI 9) (nI 9) mb) mb) c := by
    intro c hc
    rcases hrun with hr0 | L
    · obtain ⟨rfl, -⟩ := hr0
      show 0 ≤ nI 0
      decide
    · obtain ⟨q, h1, h2⟩ := tWt_nn (T := tRunOn mb z.toNatClampNeg (tReW (dg mb c) (N 3 6) (N 3) mb)) (tBits (tRunOn mb z.toNatClampNeg (tReW (dg mb c) (N 3 6) (N 3) mb)) (nI 9) (nI 9) mb) mb L.b6 (fun j hj => by
        rw [tRunOn_k mb (by decide) (by decide) (by decide) (by decide) (by decide) (by decide)]
        obtain ⟨k, -, q2, q3⟩ := (L.reW hc L.wt L.2.2.2.2.1).2.2.2.2.1 j hj
        exact ⟨k, q2, q3⟩)
      have := L.b6
      show 0 ≤ tWt _ _ mb
      rw [h2]
      exact Int32.not_lt.mp (nI_pos (by omega))
  refine kX6_order (d := 10) h.1 rfl hrun.c (v := (fun c => tWt (tRunOn mb z.toNatClampNeg (tReW (dg mb c) (N 3 6) (N 3) mb)) (tBits (tRunOn mb z.toNatClampNeg (tReW (dg mb c) (N 3 6) (N 3) mb)) (nI 9) (nI 9) mb) mb)) (β := (fun c => tBits (tRunOn mb z.toNatClampNeg (tReW (dg mb c) (N 3 6) (N 3) mb)) (nI 9) (nI 9) mb)) ?_ ?_ (fun N2 h2 => ⟨rfl, ?_⟩)
  · rintro n rfl hn hm -
    have L := hrun.m (m := 0) hm
    have hd := (ordC L.1 L.b6).2.1
    simp only [nI_clamp (show n < 2 ^ 31 by omega)]
    refine ⟨fun j hj => ?_, fun U c hc => ?_, fun c c' hc hc' e => ?_, fun c hc => ?_⟩
    · obtain ⟨k, -, q2, q3⟩ := L.2.2.2.2.1 j hj
      exact ⟨k, q2, q3⟩
    · have L1 := ((L.like U).reW hc L.wt L.2.2.2.2.1).go n
      have L2 := (L.reW hc L.wt L.2.2.2.2.1).go n
      exact (bits_sim L1 _ _ mb (Nat.le_refl _)).trans (bits_sim L2 _ _ mb (Nat.le_refl _)).symm
    · exact way_key hbd L.ok L.2.2.2.2.1 L.2.2.2.2.2.2 (hd c hc) (hd c' hc') e n _ _
    · refine (pWt_eq mb (fun i hi => ?_)).symm
      rw [tRunOn_k mb (by decide) (by decide) (by decide) (by decide) (by decide) (by decide), tReW_at _ _ _ mb hi]
  · exact hv0
  · have e40 : N2 40 = N 40 := h2 40 (by decide) (by decide)
    refine V_in1 40 (kX7_order (d := 12) h.1.mo (mb := mb) (pn := pn) (by rw [e40]; exact hrun.r) (v := (fun c => tWt (tRunOn mb z.toNatClampNeg (tReW (dg mb c) (N 3 6) (N 3) mb)) (tBits (tRunOn mb z.toNatClampNeg (tReW (dg mb c) (N 3 6) (N 3) mb)) (nI 9) (nI 9) mb) mb)) ?_ ?_ (fun S2 h3 => ⟨rfl, rfl, ⟨_, rfl⟩, h.stay h2 h3⟩))
    · rw [e40]
      rintro n rfl hn hm - c hc f hf
      have L := hrun.m (m := 0) hm
      have L1 := ((L.ag hf).reW hc L.wt L.2.2.2.2.1).go n
      simp only [nI_clamp (show n < 2 ^ 31 by omega)]
      exact (wt_sim L1 L.b6).symm
    · exact hv0
/-- jam -/
def BothJ (bd d : Nat) (c6 : ByteArray) (n6 : Nat) (l6 : List (Option xAV)) (c7 : ByteArray) (n7 : Nat) (l7 : List (Option xAV)) (Y : xY) (G : xG) (N : xM) : Prop :=
  V RX6 false c6 n6 (some .long) none d (0, 0) 0 l6 [] Y G N (fun r Y1 G1 N1 => Y1 = Y ∧ ∃ v, r = some (xJ v) ∧ V RX7 false c7 n7 (some .long) none d (0, 0) 0 l7 [] Y G1 N1 (fun r2 Y2 G2 N2 => Y2 = Y ∧ r2 = some (xJ v) ∧ Rl bd Y G2 N2 (N2 40)))
theorem jamN_cg {cs cs' : Nat → Nat} (pv : Nat → Bool) : ∀ n, (∀ i, i < n → cs i = cs' i) → jamN cs pv n = jamN cs' pv n
  | 0, _ => rfl
  | n + 1, h => by rw [jamN, jamN, jamN_cg pv n (fun i hi => h i (by omega)), h n (by omega)]
theorem Live.jm {mb pn : Nat} {T : xT} {o so f : Nat → Int32} (h : Live bd mb pn T o so f) (v : Int32) : tOK mb pn (tPut T 0 4 v) ∧ Sim mb pn (tPut T 0 4 v) (upd o 11 v) so f := by
  refine ⟨h.ok.bar (by decide) (by decide) v, ?_⟩
  obtain ⟨⟨a1, a2, a3, a4, a5, a6, a7, a8, a9⟩, a10⟩ := h.sim
  unfold tPut
  refine ⟨⟨?_, ?_, ?_, ?_, ?_, ?_, ?_, ?_, ?_⟩, ?_⟩
  · rw [va_up_eq, upd_no _ _ (by decide), upd_no _ _ (by decide)]; exact a1
  · rw [va_up_eq, upd_no _ _ (by decide)]; exact a2
  · rw [upd_no _ _ (by decide)]; exact a3
  · rw [va_up_eq, upd_no _ _ (by decide)]; exact a4
  · rw [upd_no _ _ (by decide)]; exact a5
  · rw [va_up_eq, upd_eq, upd_eq]
  · intro p hp; rw [va_up_no _ _ (by decide)]; exact a7 p hp
  · intro c hc j hj; rw [va_up_no _ _ (bs_pos (Or.inl hc)).1]; exact a8 c hc j hj
  · intro c hc j hj; rw [va_up_no _ _ (bs_pos (Or.inr hc)).1]; exact a9 c hc j hj
  · rw [va_up_eq, upd_no _ _ (by decide)]; exact a10
theorem b_jam (h : Rl bd Y G N (N 40)) : BothJ bd 16 cX6_jam 11 [some (xR 0 0), some (xI a), some (xI b2), some (xI x), some (xI y), none, none, none, none, none, none] cX7_jam 13 [some (xR 40 0), some (xI a), some (xI b2), some (xI x), some (xI y), none, none, none, none, none, none, none, none] Y G N := by
  obtain ⟨mb, pn, hrun, -⟩ := h.2.2.2.2.2.2
  have hrun_j : N 40 0 11 = 0 := by
    rcases hrun with hr0 | L
    · exact hr0.2.2.2.2.2.2.2
    · exact L.2.2.1
  refine kX6_jam (d := 11) h.1 rfl hrun.c (v := (aJam (jamN (fun i => x.toNatClampNeg ^ bcN i * (10 - x.toNatClampNeg) ^ (pn - bcN i)) (fun k => decide (rGo (upd (N 40 0) 11 (nI k)) (N 40 11) mb b2.toNatClampNeg (N 40 13) (49 + a.toNatClampNeg) = nI 9)) (2 ^ pn)) (10 ^ pn) y)) (pv := (fun k => decide (rGo (upd (N 40 0) 11 (nI k)) (N 40 11) mb b2.toNatClampNeg (N 40 13) (49 + a.toNatClampNeg) = nI 9))) ?_ ?_ (fun N2 h2 => ⟨rfl, _, rfl, ?_⟩)
  · rintro m n rfl hm rfl hn - U k hk
    have L := (((hrun.m hm).like U).jm (nI k))
    have e := (runOn_sim n L.1 L.2).m (c := 8) rfl hm
    simp only [bs] at e
    simp only [nI_clamp (show n < 2 ^ 31 by omega), nI_clamp (show m < 2 ^ 31 by have := hrun.c.b6; omega), e, decide_eq_true_eq]
  · rintro p rfl hp
    rw [nI_clamp (by omega)]
  · have e40 : N2 40 = N 40 := h2 40 (by decide) (by decide)
    refine V_in1 40 (kX7_jam (d := 12) h.1.mo (mb := mb) (pn := pn) (by rw [e40]; exact hrun.r) (v := (aJam (jamN (fun i => x.toNatClampNeg ^ bcN i * (10 - x.toNatClampNeg) ^ (pn - bcN i)) (fun k => decide (rGo (upd (N 40 0) 11 (nI k)) (N 40 11) mb b2.toNatClampNeg (N 40 13) (49 + a.toNatClampNeg) = nI 9)) (2 ^ pn)) (10 ^ pn) y)) (pv := (fun k => decide (rGo (upd (N 40 0) 11 (nI k)) (N 40 11) mb b2.toNatClampNeg (N 40 13) (49 + a.toNatClampNeg) = nI 9))) ?_ ?_ ?_ (fun S2 h3 => ⟨rfl, rfl, h.stay h2 h3⟩))
    · rw [e40]
      exact (hrun_j)
    · rw [e40]
      rintro m n rfl hm rfl hn k hk o so f ho rfl hf
      have L := ((hrun.m hm).jm (nI k))
      have L2 := (((hrun.m hm).ag hf).jm (nI k))
      have e := (runOn_sim n L.1 L.2).m (c := 8) rfl hm
      have e2 := (runOn_sim n L2.1 (L2.2.oeq ho)).m (c := 8) rfl hm
      simp only [bs] at e e2
      simp only [nI_clamp (show n < 2 ^ 31 by omega), nI_clamp (show m < 2 ^ 31 by have := hrun.c.b6; omega), ← e, ← e2, decide_eq_true_eq]
    · rintro p rfl hp
      rw [nI_clamp (by omega), csR_sum hp, jamN_cg _ _ (fun i hi => csR_bc p (by omega) pn (by have := hrun.c.b6; omega) i hi)]
end BB
