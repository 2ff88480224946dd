section KS
variable {d : Nat} {b : Nat × Nat} {Y : xY} {G : xG} {N : xM} {E T S : xT} {Q : Option xAV → xY → xG → xM → Prop}
theorem kX6_power {p n : Nat} (hn : n < 2 ^ 31) (hQ : Q (some (xJ (lN (p ^ n)))) Y G N) : V RX6 false cX6_power 6 (some .long) none d b 0 [some (xJ (lN p)), none, some (xI (nI n)), none, none, none] [] Y G N Q := by
  refine V_lconst (v := lN (p ^ 0)) dX6_power_0 (rfl) ?_
  refine V_lst3 dX6_power_1 rfl ?_
  refine V_iconst (v := nI 0) dX6_power_2 (by decide) ?_
  refine V_ist5 dX6_power_3 rfl ?_
  refine xDown (P := fun i => V RX6 false cX6_power 6 (some .long) none d b 5 [some (xJ (lN p)), none, some (xI (nI n)), some (xJ (lN (p ^ i))), none, some (xI (nI i))] [] Y G N Q) n ?_ 0 (Nat.zero_le _)
  intro i hii hni
  refine V_ild5 dX6_power_5 ?_
  refine V_ild2 dX6_power_7 ?_
  refine V_icmpgeN (tgt := 21) dX6_power_8 (by decide) (by omega) (by omega) (fun c8 => ?_) (fun c8 => ?_)
  · skip
    rw [show i = n by omega]
    refine V_lld3 dX6_power_21 ?_
    refine V_lreturn dX6_power_22 rfl ?_
    exact hQ
  · skip
    refine V_lld3 dX6_power_11 ?_
    refine V_lld0 dX6_power_12 ?_
    refine V_lmul dX6_power_13 ?_
    refine V_lst3 dX6_power_14 rfl ?_
    refine V_incN5 dX6_power_15 rfl ?_
    refine V_goto (tgt := 5) dX6_power_18 (by decide) ?_
    have hq := hni (by omega)
    rw [Nat.pow_succ, ← lN_mul] at hq
    exact hq
theorem xSt.seen (hS : xSt Y G) {g : Option (Nat × Nat)} : xSt Y (xg G 30 0 (va_up (G 30 0) 6 g)) := by
  have hne : ∀ r c k, ¬ (r = 30 ∧ c = 0 ∧ k = 6) → xg G 30 0 (va_up (G 30 0) 6 g) r c k = G r c k := by
    intro r c k h
    unfold xg
    by_cases h1 : r = 30
    · subst h1
      rw [va_up_eq]
      by_cases h2 : c = 0
      · subst h2
        rw [va_up_eq, va_up_no _ _ (fun e => h ⟨rfl, rfl, e⟩)]
      · rw [va_up_no _ _ h2]
    · rw [va_up_no _ _ h1]
  obtain ⟨a0, a1, a2, a5, a30, a32, atr, amo, ait, aac, aim⟩ := hS
  refine ⟨⟨a0.1, ?_⟩, ⟨a1.1, ?_⟩, ⟨a2.1, ?_⟩, ⟨a5.1, ?_⟩, ⟨a30.1, ?_⟩, ⟨a32.1, ?_⟩, ?_, ?_, ?_, ?_, ?_⟩
  · intro k q h; rw [hne _ _ _ (by omega)]; exact a0.2 k q h
  · intro k q h; rw [hne _ _ _ (by omega)]; exact a1.2 k q h
  · intro k q h; rw [hne _ _ _ (by omega)]; exact a2.2 k q h
  · intro k q h; rw [hne _ _ _ (by omega)]; exact a5.2 k q h
  · intro k q h
    by_cases e : k = 6
    · rw [e] at h; exact nomatch (show (none : Option (Nat × Nat)) = some q from h)
    · rw [hne _ _ _ (by omega)]; exact a30.2 k q h
  · intro k q h; rw [hne _ _ _ (by omega)]; exact a32.2 k q h
  · intro r hr
    refine ⟨(atr r hr).1, fun k h1 h2 => ?_⟩
    have hr30 : r ≠ 30 := fun e => by rw [e] at hr; exact absurd hr (by decide)
    rw [hne _ _ _ (by omega)]; exact (atr r hr).2 k h1 h2
  · refine ⟨amo.1, fun k q h => ?_⟩
    rw [hne _ _ _ (by omega)]; exact amo.2 k q h
  · intro i hi; rw [hne _ _ _ (by omega)]; exact ait i hi
  · intro i hi; rw [hne _ _ _ (by omega)]; exact aac i hi
  · intro i hi; rw [hne _ _ _ (by omega)]; exact aim i hi
theorem kX3_watch (hS : xSt Y G) {w : Nat} (hw : w < 8) {fr tk : Int32} (hQ : ∀ E2, E2 0 7 = fr → E2 0 8 = tk → (∀ c, c ≠ 0 → E2 c = E c) → Q none Y (xg G 30 0 (va_up (G 30 0) 6 (some (1, 10 + w)))) (va_up N 30 E2)) : V RX3 false cX3_watch 4 none none d b 0 [some (xR 30 0), some (xR 1 (10 + w)), some (xI fr), some (xI tk)] [] Y G (va_up N 30 E) Q := by
  refine V_ald0 dX3_watch_0 ?_
  refine V_ald1 dX3_watch_1 ?_
  refine V_putR dX3_watch_2 fwX3_34 (hS.r30.1 0 (0, 3) rfl) (fun a ha => ⟨_, by cases ha; exact hS.iy hw⟩) ?_
  refine V_ald0 dX3_watch_5 ?_
  refine V_ild2 dX3_watch_6 ?_
  refine V_putIr dX3_watch_7 fwX3_37 (hS.r30.1 0 (0, 3) rfl) ?_
  refine V_ald0 dX3_watch_10 ?_
  refine V_ild3 dX3_watch_11 ?_
  refine V_putIr dX3_watch_12 fwX3_41 (hS.r30.1 0 (0, 3) rfl) ?_
  refine V_return dX3_watch_15 rfl ?_
  exact hQ _ rfl rfl (fun c hc => (va_up_no _ _ hc).trans (va_up_no _ _ hc))
end KS
