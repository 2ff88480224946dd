section KS
variable {d : Nat} {b : Nat × Nat} {Y : xY} {G : xG} {N : xM} {E T S : xT} {Q : Option xAV → xY → xG → xM → Prop}
theorem kX3_swapTried (hS : xSt Y G) {a c : Nat} (ha : a < 6) (hc : c < 6) (hQ : ∀ E2, E2 4 = upd (upd (E 4) a (E 4 c)) c (E 4 a) → (∀ z, z ≠ 4 → E2 z = E z) → Q none Y G (va_up N 30 E2)) : V RX3 false cX3_swapTried 4 none none d b 0 [some (xR 30 0), some (xI (nI a)), some (xI (nI c)), none] [] Y G (va_up N 30 E) Q := by
  refine V_ald0 dX3_swapTried_0 ?_
  refine V_getR dX3_swapTried_1 flX3_25 (hS.r30.1 0 (0, 3) rfl) (hS.r30.2 3 (30, 4) rfl) ?_
  refine V_ild1 dX3_swapTried_4 ?_
  refine V_iar dX3_swapTried_5 (hS.r30.1 4 (1, 6) rfl) (by omega) (by decide) ?_
  refine V_ist3 dX3_swapTried_6 rfl ?_
  refine V_ald0 dX3_swapTried_7 ?_
  refine V_getR dX3_swapTried_8 flX3_25 (hS.r30.1 0 (0, 3) rfl) (hS.r30.2 3 (30, 4) rfl) ?_
  refine V_ild1 dX3_swapTried_11 ?_
  refine V_ald0 dX3_swapTried_12 ?_
  refine V_getR dX3_swapTried_13 flX3_25 (hS.r30.1 0 (0, 3) rfl) (hS.r30.2 3 (30, 4) rfl) ?_
  refine V_ild2 dX3_swapTried_16 ?_
  refine V_iar dX3_swapTried_17 (hS.r30.1 4 (1, 6) rfl) (by omega) (by decide) ?_
  refine V_iasr dX3_swapTried_18 (hS.r30.1 4 (1, 6) rfl) (by omega) (by decide) ?_
  refine V_ald0 dX3_swapTried_19 ?_
  refine V_getR dX3_swapTried_20 flX3_25 (hS.r30.1 0 (0, 3) rfl) (hS.r30.2 3 (30, 4) rfl) ?_
  refine V_ild2 dX3_swapTried_23 ?_
  refine V_ild3 dX3_swapTried_24 ?_
  refine V_iasr dX3_swapTried_25 (hS.r30.1 4 (1, 6) rfl) (by omega) (by decide) ?_
  refine V_return dX3_swapTried_26 rfl ?_
  exact hQ _ (by rw [va_up_eq, va_up_eq]) (fun c hc => (va_up_no _ _ hc).trans (va_up_no _ _ hc))
theorem xRev (hS : xSt Y G) {mb : Nat} (hm : 1 ≤ mb) (hm6 : mb ≤ 6) {x3 x4 : Int32} : ∀ (k : Nat) (a z : Nat) (E : xT) {π : Nat → Nat}, isP mb (E 4) π → z < mb → (a < z → z - a < 2 * k) → a ≤ mb → (∀ E2, isP mb (E2 4) (revN k π a z) → (∀ c, c ≠ 4 → E2 c = E c) → Q (some (xI 1)) Y G (va_up N 30 E2)) → V RX3 false cX3_stepToNextOrder 7 (some .boolean) none (d + 1) b 87 [some (xR 30 0), some (xI (nI mb)), some (xI (nI (mb - 1))), some (xI x3), some (xI x4), some (xI (nI a)), some (xI (nI z))] [] Y G (va_up N 30 E) Q := by
  intro k
  induction k with
  | zero =>
    intro a z E π hP hz hk ha hQ
    have hza : ¬ a < z := fun h => absurd (hk h) (by omega)
    refine V_ild5 dX3_stepToNextOrder_87 ?_
    refine V_ild6 dX3_stepToNextOrder_89 ?_
    refine V_icmpgeN (tgt := 111) dX3_stepToNextOrder_91 (by decide) (by omega) (by omega) (fun c91 => ?_) (fun c91 => ?_)
    · refine V_iconst (v := 1) dX3_stepToNextOrder_111 (by decide) ?_
      refine V_ireturn dX3_stepToNextOrder_112 ⟨_, rfl, xbool (Or.inr rfl)⟩ ?_
      exact hQ E hP (fun _ _ => rfl)
    · exact absurd c91 (by omega)
  | succ k ih =>
    intro a z E π hP hz hk ha hQ
    refine V_ild5 dX3_stepToNextOrder_87 ?_
    refine V_ild6 dX3_stepToNextOrder_89 ?_
    refine V_icmpgeN (tgt := 111) dX3_stepToNextOrder_91 (by decide) (by omega) (by omega) (fun c91 => ?_) (fun c91 => ?_)
    · skip
      refine V_iconst (v := 1) dX3_stepToNextOrder_111 (by decide) ?_
      refine V_ireturn dX3_stepToNextOrder_112 ⟨_, rfl, xbool (by first | exact Or.inl rfl | exact Or.inr rfl | exact xite01 _)⟩ ?_
      exact hQ E (by rw [revN, if_neg (by omega)]; exact hP) (fun _ _ => rfl)
    · skip
      refine V_ald0 dX3_stepToNextOrder_94 ?_
      refine V_ild5 dX3_stepToNextOrder_95 ?_
      refine V_ild6 dX3_stepToNextOrder_97 ?_
      refine V_iv2 dX3_stepToNextOrder_99 wlX3_128 mdX3_swapTried miX3_swapTried rfl (hS.r30.1 0 (0, 3) rfl) rfl rfl (kX3_swapTried hS (by omega) (by omega) (fun E2 e2 f2 => ⟨rfl, ?_⟩))
      refine V_incN5 dX3_stepToNextOrder_102 rfl ?_
      refine V_inc6 dX3_stepToNextOrder_105 (by show nI z + Int32.ofInt (-1) = nI (z - 1); obtain ⟨q, rfl⟩ := Nat.exists_eq_succ_of_ne_zero (show z ≠ 0 by omega); exact pk_m1 q) rfl ?_
      refine V_goto (tgt := 87) dX3_stepToNextOrder_108 (by decide) ?_
      refine ih _ _ _ (by rw [e2]; exact hP.sw (by omega) (by omega)) (by omega) (by omega) (by omega) (fun E3 e3 f3 => hQ E3 (by rw [revN, if_pos (by omega)]; exact e3) (fun c hc => (f3 c hc).trans (f2 c hc)))
theorem kX3_stepToNextOrder (hS : xSt Y G) {mb : Nat} (hm : 1 ≤ mb) (hm6 : mb ≤ 6) {π : Nat → Nat} (hP : isP mb (E 4) π) (h0 : riseN π (mb - 1) = 0 → Q (some (xI 0)) Y G (va_up N 30 E)) (h1 : ∀ r, riseN π (mb - 1) = r → 0 < r → ∀ E2, isP mb (E2 4) (nxF mb π) → (∀ c, c ≠ 4 → E2 c = E c) → Q (some (xI 1)) Y G (va_up N 30 E2)) : V RX3 false cX3_stepToNextOrder 7 (some .boolean) none (d + 1) b 0 [some (xR 30 0), some (xI (nI mb)), none, none, none, none, none] [] Y G (va_up N 30 E) Q := by
  refine V_ild1 dX3_stepToNextOrder_0 ?_
  refine V_iconst (v := nI 1) dX3_stepToNextOrder_1 (by decide) ?_
  refine V_isubN (by omega) dX3_stepToNextOrder_2 ?_
  refine V_ist2 dX3_stepToNextOrder_3 rfl ?_
  refine V_ild2 dX3_stepToNextOrder_4 ?_
  refine V_iconst (v := nI 1) dX3_stepToNextOrder_5 (by decide) ?_
  refine V_isub dX3_stepToNextOrder_6 ?_
  refine V_ist3 dX3_stepToNextOrder_7 rfl ?_
  have lp : ∀ r, r ≤ mb - 1 → riseN π (mb - 1) = riseN π r → V RX3 false cX3_stepToNextOrder 7 (some .boolean) none (d + 1) b 8 [some (xR 30 0), some (xI (nI mb)), some (xI (nI (mb - 1))), some (xI (if r = 0 then -1 else nI (r - 1))), none, none, none] [] Y G (va_up N 30 E) Q := by
    intro r
    induction r with
    | zero =>
      intro _ hr0
      rw [if_pos rfl]
      refine V_ild3 dX3_stepToNextOrder_8 ?_
      refine V_iflt (tgt := 35) dX3_stepToNextOrder_9 (by decide) (fun c9 => ?_) (fun c9 => ?_)
      · skip
        refine V_ild3 dX3_stepToNextOrder_35 ?_
        refine V_ifge (tgt := 41) dX3_stepToNextOrder_36 (by decide) (fun c36 => ?_) (fun c36 => ?_)
        · exact absurd c36 (by decide)
        · skip
          refine V_iconst (v := 0) dX3_stepToNextOrder_39 (by decide) ?_
          refine V_ireturn dX3_stepToNextOrder_40 ⟨_, rfl, xbool (by first | exact Or.inl rfl | exact Or.inr rfl | exact xite01 _)⟩ ?_
          exact h0 hr0
      · exact absurd (show (-1 : Int32) < 0 by decide) c9
    | succ r ih =>
      intro hr hr1
      rw [if_neg (Nat.succ_ne_zero r), Nat.add_sub_cancel]
      refine V_ild3 dX3_stepToNextOrder_8 ?_
      refine V_iflt (tgt := 35) dX3_stepToNextOrder_9 (by decide) (fun c9 => ?_) (fun c9 => ?_)
      · exact absurd c9 (nI_pos (by omega))
      · skip
        refine V_ald0 dX3_stepToNextOrder_12 ?_
        refine V_getR dX3_stepToNextOrder_13 flX3_25 (hS.r30.1 0 (0, 3) rfl) (hS.r30.2 3 (30, 4) rfl) ?_
        refine V_ild3 dX3_stepToNextOrder_16 ?_
        refine V_iar dX3_stepToNextOrder_17 (hS.r30.1 4 (1, 6) rfl) (by omega) (by decide) ?_
        refine V_eqI (hP r (by omega)).1 ?_
        refine V_ald0 dX3_stepToNextOrder_18 ?_
        refine V_getR dX3_stepToNextOrder_19 flX3_25 (hS.r30.1 0 (0, 3) rfl) (hS.r30.2 3 (30, 4) rfl) ?_
        refine V_ild3 dX3_stepToNextOrder_22 ?_
        refine V_iconst (v := nI 1) dX3_stepToNextOrder_23 (by decide) ?_
        refine V_iaddN dX3_stepToNextOrder_24 ?_
        refine V_iar dX3_stepToNextOrder_25 (hS.r30.1 4 (1, 6) rfl) (by omega) (by decide) ?_
        refine V_eqI (hP (r + 1) (by omega)).1 ?_
        refine V_icmple (tgt := 35) dX3_stepToNextOrder_26 (by decide) (fun c26 => ?_) (fun c26 => ?_)
        · skip
          refine V_ild3 dX3_stepToNextOrder_35 ?_
          refine V_ifge (tgt := 41) dX3_stepToNextOrder_36 (by decide) (fun c36 => ?_) (fun c36 => ?_)
          · skip
            have c26 : ¬ π (r + 1) < π r := fun h => absurd c26 (Int32.not_le.mpr (nI_lt h (by have := (hP r (by omega)).2; omega)))
            have hrise : riseN π (mb - 1) = r + 1 := by rw [hr1, riseN, if_neg c26]
            refine V_ild2 dX3_stepToNextOrder_41 ?_
            refine V_ist4 dX3_stepToNextOrder_42 rfl ?_
            have lq : ∀ z, r ≤ z → z ≤ mb - 1 → otherN π r (mb - 1) = otherN π r z → V RX3 false cX3_stepToNextOrder 7 (some .boolean) none (d + 1) b 44 [some (xR 30 0), some (xI (nI mb)), some (xI (nI (mb - 1))), some (xI (nI r)), some (xI (nI z)), none, none] [] Y G (va_up N 30 E) Q := by
              intro z
              induction z with
              | zero =>
                intro hz1 hz2 hz3
                refine V_ild4 dX3_stepToNextOrder_44 ?_
                refine V_ild3 dX3_stepToNextOrder_46 ?_
                refine V_icmpleN (tgt := 72) dX3_stepToNextOrder_47 (by decide) (by omega) (by omega) (fun c47 => ?_) (fun c47 => ?_)
                · skip
                  obtain ⟨zz, hzz⟩ : ∃ zz, zz = 0 := ⟨0, rfl⟩
                  have ho : otherN π r (mb - 1) = 0 := by rw [hz3, otherN]
                  have hzl : (0 : Nat) < mb := by omega
                  refine V_ald0 dX3_stepToNextOrder_72 ?_
                  refine V_ild3 dX3_stepToNextOrder_73 ?_
                  refine V_ild4 dX3_stepToNextOrder_74 ?_
                  refine V_iv2 dX3_stepToNextOrder_76 wlX3_128 mdX3_swapTried miX3_swapTried rfl (hS.r30.1 0 (0, 3) rfl) rfl rfl (kX3_swapTried hS (by omega) (by omega) (fun E76 e76 f76 => ⟨rfl, ?_⟩))
                  have hP2 : isP mb (E76 4) (sw π r 0) := by rw [e76]; exact hP.sw (by omega) hzl
                  refine V_ild3 dX3_stepToNextOrder_79 ?_
                  refine V_iconst (v := nI 1) dX3_stepToNextOrder_80 (by decide) ?_
                  refine V_iaddN dX3_stepToNextOrder_81 ?_
                  refine V_ist5 dX3_stepToNextOrder_82 rfl ?_
                  refine V_ild2 dX3_stepToNextOrder_84 ?_
                  refine V_ist6 dX3_stepToNextOrder_85 rfl ?_
                  refine xRev (Q := Q) hS hm hm6 (N := N) (b := b) (d := d) (x3 := nI r) (x4 := nI 0) 6 _ _ _ hP2 (by omega) (by omega) (by omega) (fun E2 e2 f2 => ?_)
                  exact h1 (r + 1) hrise (by omega) E2 (by unfold nxF; rw [hrise, Nat.add_sub_cancel, ho]; exact e2) (fun c hc => (f2 c hc).trans (f76 c hc))
                · exact absurd c47 (by omega)
              | succ z ih =>
                intro hz1 hz2 hz3
                refine V_ild4 dX3_stepToNextOrder_44 ?_
                refine V_ild3 dX3_stepToNextOrder_46 ?_
                refine V_icmpleN (tgt := 72) dX3_stepToNextOrder_47 (by decide) (by omega) (by omega) (fun c47 => ?_) (fun c47 => ?_)
                · skip
                  have ho : otherN π r (mb - 1) = z + 1 := by rw [hz3, otherN, if_neg (by omega)]
                  have hzl : z + 1 < mb := by omega
                  refine V_ald0 dX3_stepToNextOrder_72 ?_
                  refine V_ild3 dX3_stepToNextOrder_73 ?_
                  refine V_ild4 dX3_stepToNextOrder_74 ?_
                  refine V_iv2 dX3_stepToNextOrder_76 wlX3_128 mdX3_swapTried miX3_swapTried rfl (hS.r30.1 0 (0, 3) rfl) rfl rfl (kX3_swapTried hS (by omega) (by omega) (fun E76 e76 f76 => ⟨rfl, ?_⟩))
                  have hP2 : isP mb (E76 4) (sw π r (z + 1)) := by rw [e76]; exact hP.sw (by omega) hzl
                  refine V_ild3 dX3_stepToNextOrder_79 ?_
                  refine V_iconst (v := nI 1) dX3_stepToNextOrder_80 (by decide) ?_
                  refine V_iaddN dX3_stepToNextOrder_81 ?_
                  refine V_ist5 dX3_stepToNextOrder_82 rfl ?_
                  refine V_ild2 dX3_stepToNextOrder_84 ?_
                  refine V_ist6 dX3_stepToNextOrder_85 rfl ?_
                  refine xRev (Q := Q) hS hm hm6 (N := N) (b := b) (d := d) (x3 := nI r) (x4 := nI (z + 1)) 6 _ _ _ hP2 (by omega) (by omega) (by omega) (fun E2 e2 f2 => ?_)
                  exact h1 (r + 1) hrise (by omega) E2 (by unfold nxF; rw [hrise, Nat.add_sub_cancel, ho]; exact e2) (fun c hc => (f2 c hc).trans (f76 c hc))
                · skip
                  refine V_ald0 dX3_stepToNextOrder_50 ?_
                  refine V_getR dX3_stepToNextOrder_51 flX3_25 (hS.r30.1 0 (0, 3) rfl) (hS.r30.2 3 (30, 4) rfl) ?_
                  refine V_ild4 dX3_stepToNextOrder_54 ?_
                  refine V_iar dX3_stepToNextOrder_56 (hS.r30.1 4 (1, 6) rfl) (by omega) (by decide) ?_
                  refine V_eqI (hP (z + 1) (by omega)).1 ?_
                  refine V_ald0 dX3_stepToNextOrder_57 ?_
                  refine V_getR dX3_stepToNextOrder_58 flX3_25 (hS.r30.1 0 (0, 3) rfl) (hS.r30.2 3 (30, 4) rfl) ?_
                  refine V_ild3 dX3_stepToNextOrder_61 ?_
                  refine V_iar dX3_stepToNextOrder_62 (hS.r30.1 4 (1, 6) rfl) (by omega) (by decide) ?_
                  refine V_eqI (hP r (by omega)).1 ?_
                  refine V_icmpgeN (tgt := 72) dX3_stepToNextOrder_63 (by decide) (by have := (hP (z + 1) (by omega)).2; omega) (by have := (hP r (by omega)).2; omega) (fun c63 => ?_) (fun c63 => ?_)
                  · skip
                    have ho : otherN π r (mb - 1) = z + 1 := by rw [hz3, otherN, if_neg (by omega)]
                    have hzl : z + 1 < mb := by omega
                    refine V_ald0 dX3_stepToNextOrder_72 ?_
                    refine V_ild3 dX3_stepToNextOrder_73 ?_
                    refine V_ild4 dX3_stepToNextOrder_74 ?_
                    refine V_iv2 dX3_stepToNextOrder_76 wlX3_128 mdX3_swapTried miX3_swapTried rfl (hS.r30.1 0 (0, 3) rfl) rfl rfl (kX3_swapTried hS (by omega) (by omega) (fun E76 e76 f76 => ⟨rfl, ?_⟩))
                    have hP2 : isP mb (E76 4) (sw π r (z + 1)) := by rw [e76]; exact hP.sw (by omega) hzl
                    refine V_ild3 dX3_stepToNextOrder_79 ?_
                    refine V_iconst (v := nI 1) dX3_stepToNextOrder_80 (by decide) ?_
                    refine V_iaddN dX3_stepToNextOrder_81 ?_
                    refine V_ist5 dX3_stepToNextOrder_82 rfl ?_
                    refine V_ild2 dX3_stepToNextOrder_84 ?_
                    refine V_ist6 dX3_stepToNextOrder_85 rfl ?_
                    refine xRev (Q := Q) hS hm hm6 (N := N) (b := b) (d := d) (x3 := nI r) (x4 := nI (z + 1)) 6 _ _ _ hP2 (by omega) (by omega) (by omega) (fun E2 e2 f2 => ?_)
                    exact h1 (r + 1) hrise (by omega) E2 (by unfold nxF; rw [hrise, Nat.add_sub_cancel, ho]; exact e2) (fun c hc => (f2 c hc).trans (f76 c hc))
                  · replace c63 : π (z + 1) < π r := by omega
                    refine V_inc4 dX3_stepToNextOrder_66 rfl rfl ?_
                    refine V_goto (tgt := 44) dX3_stepToNextOrder_69 (by decide) ?_
                    rw [show nI (z + 1) + Int32.ofInt (-1) = nI z from pk_m1 z]
                    exact ih (by omega) (by omega) (by rw [hz3, otherN, if_pos ⟨by omega, c63⟩])
            exact lq (mb - 1) (by omega) (Nat.le_refl _) rfl
          · exact absurd (nI_pos' (by omega)) c36
        · skip
          refine V_inc3 dX3_stepToNextOrder_29 rfl rfl ?_
          refine V_goto (tgt := 8) dX3_stepToNextOrder_32 (by decide) ?_
          rw [show nI r + Int32.ofInt (-1) = (if r = 0 then -1 else nI (r - 1)) by
            by_cases h : r = 0
            · rw [if_pos h, h]; decide
            · rw [if_neg h]; obtain ⟨q, rfl⟩ := Nat.exists_eq_succ_of_ne_zero h; exact pk_m1 q]
          exact ih (by omega) (by rw [hr1, riseN, if_pos (by
            have := (nI_ltI (by have := (hP (r + 1) (by omega)).2; omega) (by have := (hP r (by omega)).2; omega)).mp (Int32.not_le.mp c26)
            exact this)])
  rw [show nI (mb - 1) - nI 1 = (if mb - 1 = 0 then -1 else nI (mb - 1 - 1)) by
    by_cases h : mb - 1 = 0
    · rw [if_pos h, h]; decide
    · rw [if_neg h, pk_sub (by omega)]]
  exact lp (mb - 1) (Nat.le_refl _) rfl
end KS
