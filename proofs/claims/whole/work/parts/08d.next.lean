section KM
variable {d : Nat} {b : Nat × Nat} {Y : xY} {G : xG} {N : xM} {S : xT} {f : Nat → Int32} {Q : Option xAV → xY → xG → xM → Prop} {c : Nat}
theorem xRevR (hM : xMo Y G) {mb : Nat} (hm6 : mb ≤ 6) {x1 x2 : Int32} : ∀ (k : Nat) (a z : Nat) (f : Nat → Int32) (l3 : Option xAV) {π : Nat → Nat}, isP mb f π → z < mb → (a < z → z - a < 2 * k) → a ≤ mb → (∀ g, isP mb g (revN k π a z) → Q (some (xI 1)) Y G (va_up N 40 (va_up S 18 g))) → V RX7 false cX7_nextOrder 6 (some .boolean) none d b 107 [some (xR 40 0), some (xI x1), some (xI x2), l3, some (xI (nI a)), some (xI (nI z))] [] Y G (va_up N 40 (va_up S 18 f)) Q := by
  intro k
  induction k with
  | zero =>
    intro a z f l3 π hP hz hk ha hQ
    have hza : ¬ a < z := fun h => absurd (hk h) (by omega)
    refine V_ild4 dX7_nextOrder_107 ?_
    refine V_ild5 dX7_nextOrder_109 ?_
    refine V_icmpgeN (tgt := 153) dX7_nextOrder_111 (by decide) (by omega) (by omega) (fun c111 => ?_) (fun c111 => ?_)
    · refine V_iconst (v := 1) dX7_nextOrder_153 (by decide) ?_
      refine V_ireturn dX7_nextOrder_154 ⟨_, rfl, xbool (Or.inr rfl)⟩ ?_
      exact hQ f hP
    · exact absurd c111 (by omega)
  | succ k ih =>
    intro a z f l3 π hP hz hk ha hQ
    refine V_ild4 dX7_nextOrder_107 ?_
    refine V_ild5 dX7_nextOrder_109 ?_
    refine V_icmpgeN (tgt := 153) dX7_nextOrder_111 (by decide) (by omega) (by omega) (fun c111 => ?_) (fun c111 => ?_)
    · skip
      refine V_iconst (v := 1) dX7_nextOrder_153 (by decide) ?_
      refine V_ireturn dX7_nextOrder_154 ⟨_, rfl, xbool (by first | exact Or.inl rfl | exact Or.inr rfl | exact xite01 _)⟩ ?_
      exact hQ f (by rw [revN, if_neg (by omega)]; exact hP)
    · skip
      refine V_ald0 dX7_nextOrder_114 ?_
      refine V_getR dX7_nextOrder_115 flX7_38 (hM.1 0 (0, 7) rfl) (show G 40 0 17 = some (40, 18) from hM.2 17 (1, 6) rfl) ?_
      refine V_ild4 dX7_nextOrder_118 ?_
      refine V_iac dX7_nextOrder_120 (hM.1 18 (1, 6) rfl) (by omega) (by decide) ?_
      refine V_ist3 dX7_nextOrder_121 rfl ?_
      refine V_ald0 dX7_nextOrder_122 ?_
      refine V_getR dX7_nextOrder_123 flX7_38 (hM.1 0 (0, 7) rfl) (show G 40 0 17 = some (40, 18) from hM.2 17 (1, 6) rfl) ?_
      refine V_ild4 dX7_nextOrder_126 ?_
      refine V_ald0 dX7_nextOrder_128 ?_
      refine V_getR dX7_nextOrder_129 flX7_38 (hM.1 0 (0, 7) rfl) (show G 40 0 17 = some (40, 18) from hM.2 17 (1, 6) rfl) ?_
      refine V_ild5 dX7_nextOrder_132 ?_
      refine V_iac dX7_nextOrder_134 (hM.1 18 (1, 6) rfl) (by omega) (by decide) ?_
      refine V_iasc dX7_nextOrder_135 (hM.1 18 (1, 6) rfl) (by omega) (by decide) ?_
      refine V_ald0 dX7_nextOrder_136 ?_
      refine V_getR dX7_nextOrder_137 flX7_38 (hM.1 0 (0, 7) rfl) (show G 40 0 17 = some (40, 18) from hM.2 17 (1, 6) rfl) ?_
      refine V_ild5 dX7_nextOrder_140 ?_
      refine V_ild3 dX7_nextOrder_142 ?_
      refine V_iasc dX7_nextOrder_143 (hM.1 18 (1, 6) rfl) (by omega) (by decide) ?_
      refine V_incN4 dX7_nextOrder_144 rfl ?_
      refine V_inc5 dX7_nextOrder_147 (by show nI z + Int32.ofInt (-1) = nI (z - 1); obtain ⟨q, rfl⟩ := Nat.exists_eq_succ_of_ne_zero (show z ≠ 0 by omega); exact pk_m1 q) rfl ?_
      refine V_goto (tgt := 107) dX7_nextOrder_150 (by decide) ?_
      exact ih _ _ _ _ (hP.sw (by omega) (by omega)) (by omega) (by omega) (by omega) (fun g hg => hQ g (by rw [revN, if_pos (by omega)]; exact hg))
theorem kX7_nextOrder (hM : xMo Y G) {mb : Nat} (h8 : S 0 8 = nI mb) (hm : 1 ≤ mb) (hm6 : mb ≤ 6) {π : Nat → Nat} (hP : isP mb (S 18) π) (h0 : riseN π (mb - 1) = 0 → ∀ g, Q (some (xI 0)) Y G (va_up N 40 (va_up S 18 g))) (h1 : ∀ r, riseN π (mb - 1) = r → 0 < r → ∀ g, isP mb g (nxF mb π) → Q (some (xI 1)) Y G (va_up N 40 (va_up S 18 g))) : V RX7 false cX7_nextOrder 6 (some .boolean) none d b 0 [some (xR 40 0), none, none, none, none, none] [] Y G (va_up N 40 S) Q := by
  refine V_sub 40 18 ?_
  replace hP : isP mb (S 18) π := hP
  generalize S 18 = f at hP ⊢
  refine V_ald0 dX7_nextOrder_0 ?_
  refine V_getIs dX7_nextOrder_1 flX7_74 (hM.1 0 (0, 7) rfl) (by decide) ?_
  refine V_eqI h8 ?_
  refine V_iconst (v := nI 2) dX7_nextOrder_4 (by decide) ?_
  refine V_isub dX7_nextOrder_5 ?_
  refine V_ist1 dX7_nextOrder_6 rfl ?_
  have lp : ∀ r, r ≤ mb - 1 → riseN π (mb - 1) = riseN π r → V RX7 false cX7_nextOrder 6 (some .boolean) none d b 7 [some (xR 40 0), some (xI (if r = 0 then -1 else nI (r - 1))), none, none, none, none] [] Y G (va_up N 40 (va_up S 18 f)) Q := by
    intro r
    induction r with
    | zero =>
      intro _ hr0
      rw [if_pos rfl]
      refine V_ild1 dX7_nextOrder_7 ?_
      refine V_iflt (tgt := 34) dX7_nextOrder_8 (by decide) (fun c8 => ?_) (fun c8 => ?_)
      · skip
        refine V_ild1 dX7_nextOrder_34 ?_
        refine V_ifge (tgt := 40) dX7_nextOrder_35 (by decide) (fun c35 => ?_) (fun c35 => ?_)
        · exact absurd c35 (by decide)
        · skip
          refine V_iconst (v := 0) dX7_nextOrder_38 (by decide) ?_
          refine V_ireturn dX7_nextOrder_39 ⟨_, rfl, xbool (by first | exact Or.inl rfl | exact Or.inr rfl | exact xite01 _)⟩ ?_
          exact h0 hr0 f
      · exact absurd (show (-1 : Int32) < 0 by decide) c8
    | succ r ih =>
      intro hr hr1
      rw [if_neg (Nat.succ_ne_zero r), Nat.add_sub_cancel]
      refine V_ild1 dX7_nextOrder_7 ?_
      refine V_iflt (tgt := 34) dX7_nextOrder_8 (by decide) (fun c8 => ?_) (fun c8 => ?_)
      · exact absurd c8 (nI_pos (by omega))
      · skip
        refine V_ald0 dX7_nextOrder_11 ?_
        refine V_getR dX7_nextOrder_12 flX7_38 (hM.1 0 (0, 7) rfl) (show G 40 0 17 = some (40, 18) from hM.2 17 (1, 6) rfl) ?_
        refine V_ild1 dX7_nextOrder_15 ?_
        refine V_iac dX7_nextOrder_16 (hM.1 18 (1, 6) rfl) (by omega) (by decide) ?_
        refine V_eqI (hP r (by omega)).1 ?_
        refine V_ald0 dX7_nextOrder_17 ?_
        refine V_getR dX7_nextOrder_18 flX7_38 (hM.1 0 (0, 7) rfl) (show G 40 0 17 = some (40, 18) from hM.2 17 (1, 6) rfl) ?_
        refine V_ild1 dX7_nextOrder_21 ?_
        refine V_iconst (v := nI 1) dX7_nextOrder_22 (by decide) ?_
        refine V_iaddN dX7_nextOrder_23 ?_
        refine V_iac dX7_nextOrder_24 (hM.1 18 (1, 6) rfl) (by omega) (by decide) ?_
        refine V_eqI (hP (r + 1) (by omega)).1 ?_
        refine V_icmple (tgt := 34) dX7_nextOrder_25 (by decide) (fun c25 => ?_) (fun c25 => ?_)
        · skip
          refine V_ild1 dX7_nextOrder_34 ?_
          refine V_ifge (tgt := 40) dX7_nextOrder_35 (by decide) (fun c35 => ?_) (fun c35 => ?_)
          · skip
            have c25 : ¬ π (r + 1) < π r := fun h => absurd c25 (Int32.not_le.mpr (nI_lt h (by have := (hP r (by omega)).2; omega)))
            have hrise : riseN π (mb - 1) = r + 1 := by rw [hr1, riseN, if_neg c25]
            refine V_ald0 dX7_nextOrder_40 ?_
            refine V_getIs dX7_nextOrder_41 flX7_74 (hM.1 0 (0, 7) rfl) (by decide) ?_
            refine V_eqI h8 ?_
            refine V_iconst (v := nI 1) dX7_nextOrder_44 (by decide) ?_
            refine V_isubN (by omega) dX7_nextOrder_45 ?_
            refine V_ist2 dX7_nextOrder_46 rfl ?_
            have lq : ∀ z, r ≤ z → z ≤ mb - 1 → otherN π r (mb - 1) = otherN π r z → V RX7 false cX7_nextOrder 6 (some .boolean) none d b 47 [some (xR 40 0), some (xI (nI r)), some (xI (nI z)), none, none, none] [] Y G (va_up N 40 (va_up S 18 f)) Q := by
              intro z
              induction z with
              | zero =>
                intro hz1 hz2 hz3
                refine V_ald0 dX7_nextOrder_47 ?_
                refine V_getR dX7_nextOrder_48 flX7_38 (hM.1 0 (0, 7) rfl) (show G 40 0 17 = some (40, 18) from hM.2 17 (1, 6) rfl) ?_
                refine V_ild2 dX7_nextOrder_51 ?_
                refine V_iac dX7_nextOrder_52 (hM.1 18 (1, 6) rfl) (by omega) (by decide) ?_
                refine V_eqI (hP 0 (by omega)).1 ?_
                refine V_ald0 dX7_nextOrder_53 ?_
                refine V_getR dX7_nextOrder_54 flX7_38 (hM.1 0 (0, 7) rfl) (show G 40 0 17 = some (40, 18) from hM.2 17 (1, 6) rfl) ?_
                refine V_ild1 dX7_nextOrder_57 ?_
                refine V_iac dX7_nextOrder_58 (hM.1 18 (1, 6) rfl) (by omega) (by decide) ?_
                refine V_eqI (hP r (by omega)).1 ?_
                refine V_icmpgeN (tgt := 68) dX7_nextOrder_59 (by decide) (by have := (hP 0 (by omega)).2; omega) (by have := (hP r (by omega)).2; omega) (fun c59 => ?_) (fun c59 => ?_)
                · have hzl : (0 : Nat) < mb := by omega
                  have ho : otherN π r (mb - 1) = 0 := by rw [hz3, otherN]
                  refine V_ald0 dX7_nextOrder_68 ?_
                  refine V_getR dX7_nextOrder_69 flX7_38 (hM.1 0 (0, 7) rfl) (show G 40 0 17 = some (40, 18) from hM.2 17 (1, 6) rfl) ?_
                  refine V_ild1 dX7_nextOrder_72 ?_
                  refine V_iac dX7_nextOrder_73 (hM.1 18 (1, 6) rfl) (by omega) (by decide) ?_
                  refine V_ist3 dX7_nextOrder_74 rfl ?_
                  refine V_ald0 dX7_nextOrder_75 ?_
                  refine V_getR dX7_nextOrder_76 flX7_38 (hM.1 0 (0, 7) rfl) (show G 40 0 17 = some (40, 18) from hM.2 17 (1, 6) rfl) ?_
                  refine V_ild1 dX7_nextOrder_79 ?_
                  refine V_ald0 dX7_nextOrder_80 ?_
                  refine V_getR dX7_nextOrder_81 flX7_38 (hM.1 0 (0, 7) rfl) (show G 40 0 17 = some (40, 18) from hM.2 17 (1, 6) rfl) ?_
                  refine V_ild2 dX7_nextOrder_84 ?_
                  refine V_iac dX7_nextOrder_85 (hM.1 18 (1, 6) rfl) (by omega) (by decide) ?_
                  refine V_iasc dX7_nextOrder_86 (hM.1 18 (1, 6) rfl) (by omega) (by decide) ?_
                  refine V_ald0 dX7_nextOrder_87 ?_
                  refine V_getR dX7_nextOrder_88 flX7_38 (hM.1 0 (0, 7) rfl) (show G 40 0 17 = some (40, 18) from hM.2 17 (1, 6) rfl) ?_
                  refine V_ild2 dX7_nextOrder_91 ?_
                  refine V_ild3 dX7_nextOrder_92 ?_
                  refine V_iasc dX7_nextOrder_93 (hM.1 18 (1, 6) rfl) (by omega) (by decide) ?_
                  refine V_ild1 dX7_nextOrder_94 ?_
                  refine V_iconst (v := nI 1) dX7_nextOrder_95 (by decide) ?_
                  refine V_iaddN dX7_nextOrder_96 ?_
                  refine V_ist4 dX7_nextOrder_97 rfl ?_
                  refine V_ald0 dX7_nextOrder_99 ?_
                  refine V_getIs dX7_nextOrder_100 flX7_74 (hM.1 0 (0, 7) rfl) (by decide) ?_
                  refine V_eqI h8 ?_
                  refine V_iconst (v := nI 1) dX7_nextOrder_103 (by decide) ?_
                  refine V_isubN (by omega) dX7_nextOrder_104 ?_
                  refine V_ist5 dX7_nextOrder_105 rfl ?_
                  refine xRevR (mb := mb) hM hm6 6 _ _ _ _ (hP.sw (a := r) (b := 0) (by omega) hzl) (by omega) (by omega) (by omega) (fun g hg => ?_)
                  exact h1 (r + 1) hrise (by omega) g (by unfold nxF; rw [hrise, Nat.add_sub_cancel, ho]; exact hg)
                · exact absurd (show π 0 < π r by omega) (by rw [show r = 0 by omega]; exact Nat.lt_irrefl _)
              | succ z ih =>
                intro hz1 hz2 hz3
                refine V_ald0 dX7_nextOrder_47 ?_
                refine V_getR dX7_nextOrder_48 flX7_38 (hM.1 0 (0, 7) rfl) (show G 40 0 17 = some (40, 18) from hM.2 17 (1, 6) rfl) ?_
                refine V_ild2 dX7_nextOrder_51 ?_
                refine V_iac dX7_nextOrder_52 (hM.1 18 (1, 6) rfl) (by omega) (by decide) ?_
                refine V_eqI (hP (z + 1) (by omega)).1 ?_
                refine V_ald0 dX7_nextOrder_53 ?_
                refine V_getR dX7_nextOrder_54 flX7_38 (hM.1 0 (0, 7) rfl) (show G 40 0 17 = some (40, 18) from hM.2 17 (1, 6) rfl) ?_
                refine V_ild1 dX7_nextOrder_57 ?_
                refine V_iac dX7_nextOrder_58 (hM.1 18 (1, 6) rfl) (by omega) (by decide) ?_
                refine V_eqI (hP r (by omega)).1 ?_
                refine V_icmpgeN (tgt := 68) dX7_nextOrder_59 (by decide) (by have := (hP (z + 1) (by omega)).2; omega) (by have := (hP r (by omega)).2; omega) (fun c59 => ?_) (fun c59 => ?_)
                · have ho : otherN π r (mb - 1) = z + 1 := by rw [hz3, otherN, if_neg (by omega)]
                  have hzl : z + 1 < mb := by omega
                  refine V_ald0 dX7_nextOrder_68 ?_
                  refine V_getR dX7_nextOrder_69 flX7_38 (hM.1 0 (0, 7) rfl) (show G 40 0 17 = some (40, 18) from hM.2 17 (1, 6) rfl) ?_
                  refine V_ild1 dX7_nextOrder_72 ?_
                  refine V_iac dX7_nextOrder_73 (hM.1 18 (1, 6) rfl) (by omega) (by decide) ?_
                  refine V_ist3 dX7_nextOrder_74 rfl ?_
                  refine V_ald0 dX7_nextOrder_75 ?_
                  refine V_getR dX7_nextOrder_76 flX7_38 (hM.1 0 (0, 7) rfl) (show G 40 0 17 = some (40, 18) from hM.2 17 (1, 6) rfl) ?_
                  refine V_ild1 dX7_nextOrder_79 ?_
                  refine V_ald0 dX7_nextOrder_80 ?_
                  refine V_getR dX7_nextOrder_81 flX7_38 (hM.1 0 (0, 7) rfl) (show G 40 0 17 = some (40, 18) from hM.2 17 (1, 6) rfl) ?_
                  refine V_ild2 dX7_nextOrder_84 ?_
                  refine V_iac dX7_nextOrder_85 (hM.1 18 (1, 6) rfl) (by omega) (by decide) ?_
                  refine V_iasc dX7_nextOrder_86 (hM.1 18 (1, 6) rfl) (by omega) (by decide) ?_
                  refine V_ald0 dX7_nextOrder_87 ?_
                  refine V_getR dX7_nextOrder_88 flX7_38 (hM.1 0 (0, 7) rfl) (show G 40 0 17 = some (40, 18) from hM.2 17 (1, 6) rfl) ?_
                  refine V_ild2 dX7_nextOrder_91 ?_
                  refine V_ild3 dX7_nextOrder_92 ?_
                  refine V_iasc dX7_nextOrder_93 (hM.1 18 (1, 6) rfl) (by omega) (by decide) ?_
                  refine V_ild1 dX7_nextOrder_94 ?_
                  refine V_iconst (v := nI 1) dX7_nextOrder_95 (by decide) ?_
                  refine V_iaddN dX7_nextOrder_96 ?_
                  refine V_ist4 dX7_nextOrder_97 rfl ?_
                  refine V_ald0 dX7_nextOrder_99 ?_
                  refine V_getIs dX7_nextOrder_100 flX7_74 (hM.1 0 (0, 7) rfl) (by decide) ?_
                  refine V_eqI h8 ?_
                  refine V_iconst (v := nI 1) dX7_nextOrder_103 (by decide) ?_
                  refine V_isubN (by omega) dX7_nextOrder_104 ?_
                  refine V_ist5 dX7_nextOrder_105 rfl ?_
                  refine xRevR (mb := mb) hM hm6 6 _ _ _ _ (hP.sw (a := r) (b := (z + 1)) (by omega) hzl) (by omega) (by omega) (by omega) (fun g hg => ?_)
                  exact h1 (r + 1) hrise (by omega) g (by unfold nxF; rw [hrise, Nat.add_sub_cancel, ho]; exact hg)
                · replace c59 : π (z + 1) < π r := by omega
                  have hlt : r < z + 1 := by
                    rcases Nat.lt_or_ge r (z + 1) with q | q
                    · exact q
                    · rw [show z + 1 = r by omega] at c59; exact absurd c59 (Nat.lt_irrefl _)
                  refine V_inc2 dX7_nextOrder_62 rfl rfl ?_
                  refine V_goto (tgt := 47) dX7_nextOrder_65 (by decide) ?_
                  rw [show nI (z + 1) + Int32.ofInt (-1) = nI z from pk_m1 z]
                  exact ih (by omega) (by omega) (by rw [hz3, otherN, if_pos ⟨hlt, c59⟩])
            exact lq (mb - 1) (by omega) (Nat.le_refl _) rfl
          · exact absurd (nI_pos' (by omega)) c35
        · skip
          refine V_inc1 dX7_nextOrder_28 rfl rfl ?_
          refine V_goto (tgt := 7) dX7_nextOrder_31 (by decide) ?_
          rw [show nI r + Int32.ofInt (-1) = (if r = 0 then -1 else nI (r - 1)) by
            by_cases h : r = 0
            · rw [if_pos h, h]; decide
            · rw [if_neg h]; obtain ⟨q, rfl⟩ := Nat.exists_eq_succ_of_ne_zero h; exact pk_m1 q]
          exact ih (by omega) (by rw [hr1, riseN, if_pos (by
            have := (nI_ltI (by have := (hP (r + 1) (by omega)).2; omega) (by have := (hP r (by omega)).2; omega)).mp (Int32.not_le.mp c25)
            exact this)])
  rw [show nI mb - nI 2 = (if mb - 1 = 0 then -1 else nI (mb - 1 - 1)) by
    by_cases h : mb - 1 = 0
    · rw [if_pos h, show mb = 1 by omega]; decide
    · rw [if_neg h, pk_sub (by omega)]; rfl]
  exact lp (mb - 1) (Nat.le_refl _) rfl
end KM
