section K6
variable {d : Nat} {b : Nat × Nat} {Y : xY} {G : xG} {N : xM} {T : xT} {Q : Option xAV → xY → xG → xM → Prop}
theorem kX6_lead (hS : xSt Y G) (hN3 : N 3 = T) {mb pn : Nat} (hc : cSt T mb pn) {nx mn : Nat} (hnx : N 5 0 1 = nI nx) (hn : nx < 24) (hmn : N 5 0 2 = nI mn) (hm : mn ≤ 24) {a y z : Int32} (hB : ¬ (rIn a (nI 0) (nI pn - nI 1) ∧ rIn y (nI 0) (nI 1) ∧ rIn z (a + nI 1) (nI 9)) → Q (some (xI (-1000001))) Y G N) (h0 : ∀ p q, a = nI p → p < pn → z = nI q → p < q → q ≤ 9 → y = 0 → Q (some (xI (T 11 p))) Y G (va_up (cKp N nx mn) 3 (tPut T 11 p (nI q)))) (h1 : ∀ p q, a = nI p → p < pn → z = nI q → p < q → q ≤ 9 → ¬ y = 0 → rIn y (nI 0) (nI 1) → Q (some (xI (T 12 p))) Y G (va_up (cKp N nx mn) 3 (tPut T 12 p (nI q)))) : V RX6 false cX6_lead 6 (some .int) none (d + 3) b 0 [some (xR 0 0), some (xI a), some (xI y), some (xI z), none, none] [] Y G N Q := by
  refine V_ald0 dX6_lead_0 ?_
  refine V_ild1 dX6_lead_1 ?_
  refine V_iv1 dX6_lead_2 wlX6_160 mdX6_noPiece miX6_noPiece rfl (hS.r0.1 0 (0, 6) rfl) rfl rfl (kX6_noPiece hS hN3 hc ⟨rfl, ?_⟩)
  refine V_ifneB (tgt := 26) dX6_lead_5 (by decide) (fun c5 => ?_) (fun c5 => ?_)
  · skip
    refine V_ldc dX6_lead_26 wkX6_69 ?_
    refine V_ireturn dX6_lead_28 ⟨_, rfl, vp_nar_int _⟩ ?_
    exact hB (fun h => c5 h.1)
  · replace c5 := Classical.not_not.mp c5
    refine V_ild2 dX6_lead_8 ?_
    refine V_is1 dX6_lead_9 wlX6_171 mdX6_noSide msX6_noSide rfl rfl (kX6_noSide ⟨rfl, ?_⟩)
    refine V_ifneB (tgt := 26) dX6_lead_12 (by decide) (fun c12 => ?_) (fun c12 => ?_)
    · skip
      refine V_ldc dX6_lead_26 wkX6_69 ?_
      refine V_ireturn dX6_lead_28 ⟨_, rfl, vp_nar_int _⟩ ?_
      exact hB (fun h => c12 h.2.1)
    · replace c12 := Classical.not_not.mp c12
      refine V_ild3 dX6_lead_15 ?_
      refine V_ild1 dX6_lead_16 ?_
      refine V_icmple (tgt := 26) dX6_lead_17 (by decide) (fun c17 => ?_) (fun c17 => ?_)
      · skip
        refine V_ldc dX6_lead_26 wkX6_69 ?_
        refine V_ireturn dX6_lead_28 ⟨_, rfl, vp_nar_int _⟩ ?_
        exact hB (fun h => by
          obtain ⟨p, hp, rfl⟩ := rIn_m c5 (by have := hc.b6; omega)
          have hb := hc.b6
          have h3 := h.2.2
          rw [nI_add] at h3
          obtain ⟨q, hq0, hq1, rfl⟩ := rIn_k h3 (by decide) (by omega)
          exact absurd ((nI_leI (by omega) (by omega)).mp c17) (by omega))
      · skip
        refine V_ild3 dX6_lead_20 ?_
        refine V_bipush (v := nI 9) dX6_lead_21 (by decide) ?_
        refine V_icmple (tgt := 29) dX6_lead_23 (by decide) (fun c23 => ?_) (fun c23 => ?_)
        · skip
          obtain ⟨p, hp, rfl⟩ := rIn_m c5 (by have := hc.b6; omega)
          have hb := hc.b6
          obtain ⟨q, hq0, hq1, rfl⟩ : ∃ q, p < q ∧ q ≤ 9 ∧ z = nI q := by
            rcases pk_ix z (n := 10) (by decide) with h | h | ⟨q, h1, h2⟩
            · exact absurd (Int32.le_of_lt (Int32.lt_of_lt_of_le h (Int32.not_lt.mp (nI_pos (by omega))))) c17
            · exact absurd (Int32.le_trans h c23) (by decide)
            · refine ⟨q, ?_, by omega, h2⟩
              rw [h2] at c17
              exact Nat.lt_of_not_le fun e => c17 ((nI_leI (by omega) (by omega)).mpr e)
          refine V_ald0 dX6_lead_29 ?_
          refine V_getR dX6_lead_30 flX6_36 (hS.r0.1 0 (0, 6) rfl) (hS.r0.2 4 (5, 0) rfl) ?_
          refine V_ald0 dX6_lead_33 ?_
          refine V_getR dX6_lead_34 flX6_26 (hS.r0.1 0 (0, 6) rfl) (hS.r0.2 2 (3, 0) rfl) ?_
          refine V_iv1 dX6_lead_37 wlX6_151 mdX0_keep miX0_keep rfl (hS.r5.1 0 (0, 0) rfl) rfl rfl (kX0_keep hS rfl hnx hn hmn hm (hS.tr 3 rfl) (by omega) ⟨rfl, ?_⟩)
          refine V_eqN (N' := cKp N nx mn) rfl ?_
          refine V_in1 3 ?_
          rw [cKp_no N mn (r := 3) (by decide) (by omega), hN3]
          refine V_ild2 dX6_lead_40 ?_
          refine V_ifne (tgt := 54) dX6_lead_41 (by decide) (fun c41 => ?_) (fun c41 => ?_)
          · skip
            refine V_ald0 dX6_lead_54 ?_
            refine V_getR dX6_lead_55 flX6_26 (hS.r0.1 0 (0, 6) rfl) (hS.r0.2 2 (3, 0) rfl) ?_
            refine V_getR dX6_lead_58 flX6_177 ((hS.tr 3 rfl).1 0 (0, 5) rfl) (show G 3 0 11 = some (3, 12) from (hS.tr 3 rfl).2 11 (by decide) (by decide)) ?_
            refine V_ast4 dX6_lead_61 rfl ?_
            refine V_ald4 dX6_lead_63 ?_
            refine V_ild1 dX6_lead_65 ?_
            refine V_iar dX6_lead_66 ((hS.tr 3 rfl).1 12 (1, 8) rfl) (by omega) (by decide) ?_
            refine V_ist5 dX6_lead_67 rfl ?_
            refine V_ald4 dX6_lead_69 ?_
            refine V_ild1 dX6_lead_71 ?_
            refine V_ild3 dX6_lead_72 ?_
            refine V_iasr dX6_lead_73 ((hS.tr 3 rfl).1 12 (1, 8) rfl) (by omega) (by decide) ?_
            refine V_ild5 dX6_lead_74 ?_
            refine V_ireturn dX6_lead_76 ⟨_, rfl, vp_nar_int _⟩ ?_
            exact h1 p q rfl hp rfl hq0 hq1 c41 c12
          · skip
            refine V_ald0 dX6_lead_44 ?_
            refine V_getR dX6_lead_45 flX6_26 (hS.r0.1 0 (0, 6) rfl) (hS.r0.2 2 (3, 0) rfl) ?_
            refine V_getR dX6_lead_48 flX6_174 ((hS.tr 3 rfl).1 0 (0, 5) rfl) (show G 3 0 10 = some (3, 11) from (hS.tr 3 rfl).2 10 (by decide) (by decide)) ?_
            refine V_goto (tgt := 61) dX6_lead_51 (by decide) ?_
            refine V_ast4 dX6_lead_61 rfl ?_
            refine V_ald4 dX6_lead_63 ?_
            refine V_ild1 dX6_lead_65 ?_
            refine V_iar dX6_lead_66 ((hS.tr 3 rfl).1 11 (1, 8) rfl) (by omega) (by decide) ?_
            refine V_ist5 dX6_lead_67 rfl ?_
            refine V_ald4 dX6_lead_69 ?_
            refine V_ild1 dX6_lead_71 ?_
            refine V_ild3 dX6_lead_72 ?_
            refine V_iasr dX6_lead_73 ((hS.tr 3 rfl).1 11 (1, 8) rfl) (by omega) (by decide) ?_
            refine V_ild5 dX6_lead_74 ?_
            refine V_ireturn dX6_lead_76 ⟨_, rfl, vp_nar_int _⟩ ?_
            exact h0 p q rfl hp rfl hq0 hq1 c41
        · skip
          refine V_ldc dX6_lead_26 wkX6_69 ?_
          refine V_ireturn dX6_lead_28 ⟨_, rfl, vp_nar_int _⟩ ?_
          exact hB (fun h => h.2.2.2 (Int32.not_le.mp c23))
theorem kX6_ticks (hS : xSt Y G) (hN3 : N 3 = T) {mb pn : Nat} (hc : cSt T mb pn) {nx mn : Nat} (hnx : N 5 0 1 = nI nx) (hn : nx < 24) (hmn : N 5 0 2 = nI mn) (hm : mn ≤ 24) {a : Int32} (h0 : nI pn = 0 → Q (some (xI (-1000002))) Y G N) (hB : ¬ nI pn = 0 → ¬ rIn a (nI 1) (nI 24) → Q (some (xI (-1000001))) Y G N) (hF : ¬ nI pn = 0 → rIn a (nI 1) (nI 24) → nI 999 < T 0 1 + a → Q (some (xI (-1000003))) Y G N) (hO : ∀ n, a = nI n → 1 ≤ n → n ≤ 24 → ¬ nI pn = 0 → ¬ nI 999 < T 0 1 + a → Q (some (xI (tBits (cTks mb n nx mn N 3) (nI 9) (nI 9) mb))) Y G (cTks mb n nx mn N)) : V RX6 false cX6_ticks 3 (some .int) none (d + 4) b 0 [some (xR 0 0), some (xI a), none] [] Y G N Q := by
  refine V_ald0 dX6_ticks_0 ?_
  refine V_iv0 dX6_ticks_1 wlX6_144 mdX6_noRun miX6_noRun rfl (hS.r0.1 0 (0, 6) rfl) rfl rfl (kX6_noRun hS hN3 hc ⟨rfl, ?_⟩)
  refine V_ifeqB (tgt := 10) dX6_ticks_4 (by decide) (fun c4 => ?_) (fun c4 => ?_)
  · skip
    refine V_ild1 dX6_ticks_10 ?_
    refine V_iconst (v := nI 1) dX6_ticks_11 (by decide) ?_
    refine V_icmplt (tgt := 21) dX6_ticks_12 (by decide) (fun c12 => ?_) (fun c12 => ?_)
    · skip
      refine V_ldc dX6_ticks_21 wkX6_69 ?_
      refine V_ireturn dX6_ticks_23 ⟨_, rfl, vp_nar_int _⟩ ?_
      exact hB c4 (fun h => h.1 c12)
    · skip
      refine V_ild1 dX6_ticks_15 ?_
      refine V_bipush (v := nI 24) dX6_ticks_16 (by decide) ?_
      refine V_icmple (tgt := 24) dX6_ticks_18 (by decide) (fun c18 => ?_) (fun c18 => ?_)
      · skip
        have hP : rIn a (nI 1) (nI 24) := ⟨c12, Int32.not_lt.mpr c18⟩
        refine V_ald0 dX6_ticks_24 ?_
        refine V_getR dX6_ticks_25 flX6_26 (hS.r0.1 0 (0, 6) rfl) (hS.r0.2 2 (3, 0) rfl) ?_
        refine V_getI dX6_ticks_28 flX6_148 ((hS.tr 3 rfl).1 0 (0, 5) rfl) ?_
        refine V_eqI (by rw [hN3] : _ = T 0 1) ?_
        refine V_ild1 dX6_ticks_31 ?_
        refine V_iadd dX6_ticks_32 ?_
        refine V_sipush (v := nI 999) dX6_ticks_33 (by decide) ?_
        refine V_icmple (tgt := 42) dX6_ticks_36 (by decide) (fun c36 => ?_) (fun c36 => ?_)
        · skip
          obtain ⟨n, hn0, hn1, rfl⟩ := rIn_k hP (by decide) (by decide)
          have hk := (hc.ok0 c4).2
          refine V_iconst (v := nI 0) dX6_ticks_42 (by decide) ?_
          refine V_ist2 dX6_ticks_43 rfl ?_
          refine xDown (P := fun i => ∀ N2 nx2 mn2, N2 5 0 1 = nI nx2 → nx2 < 24 → N2 5 0 2 = nI mn2 → mn2 ≤ 24 → tOK mb pn (N2 3) → Q (some (xI (tBits (cTks mb (n - i) nx2 mn2 N2 3) (nI 9) (nI 9) mb))) Y G (cTks mb (n - i) nx2 mn2 N2) → V RX6 false cX6_ticks 3 (some .int) none (d + 4) b 44 [some (xR 0 0), some (xI (nI n)), some (xI (nI i))] [] Y G N2 Q) n ?_ 0 (Nat.zero_le _) N nx mn hnx hn hmn hm (by rw [hN3]; exact hk) (hO n rfl hn0 hn1 c4 (Int32.not_lt.mpr c36)) 
          intro i hii hni N2 nx2 mn2 enx hnx24 emn hm24 hk2 hq
          refine V_ild2 dX6_ticks_44 ?_
          refine V_ild1 dX6_ticks_45 ?_
          refine V_icmpgeN (tgt := 73) dX6_ticks_46 (by decide) (by omega) (by omega) (fun c46 => ?_) (fun c46 => ?_)
          · skip
            refine V_ald0 dX6_ticks_73 ?_
            refine V_getR dX6_ticks_74 flX6_26 (hS.r0.1 0 (0, 6) rfl) (hS.r0.2 2 (3, 0) rfl) ?_
            refine V_bipush (v := nI 9) dX6_ticks_77 (by decide) ?_
            refine V_iv1 dX6_ticks_79 wlX6_157 mdX5_bitsAt miX5_bitsAt rfl ((hS.tr 3 rfl).1 0 (0, 5) rfl) rfl rfl (kX5_bitsAtN (hS.tr 3 rfl) rfl hk2.e2 hk2.mb ⟨rfl, ?_⟩)
            refine V_ireturn dX6_ticks_82 ⟨_, rfl, vp_nar_int _⟩ ?_
            rw [show n - i = 0 by omega, cTks] at hq
            exact hq
          · skip
            refine V_ald0 dX6_ticks_49 ?_
            refine V_getR dX6_ticks_50 flX6_36 (hS.r0.1 0 (0, 6) rfl) (hS.r0.2 4 (5, 0) rfl) ?_
            refine V_ald0 dX6_ticks_53 ?_
            refine V_getR dX6_ticks_54 flX6_26 (hS.r0.1 0 (0, 6) rfl) (hS.r0.2 2 (3, 0) rfl) ?_
            refine V_iv1 dX6_ticks_57 wlX6_151 mdX0_keep miX0_keep rfl (hS.r5.1 0 (0, 0) rfl) rfl rfl (kX0_keep hS rfl enx hnx24 emn hm24 (hS.tr 3 rfl) (by omega) ⟨rfl, ?_⟩)
            refine V_eqN (N' := cKp N2 nx2 mn2) rfl ?_
            refine V_ald0 dX6_ticks_60 ?_
            refine V_getR dX6_ticks_61 flX6_26 (hS.r0.1 0 (0, 6) rfl) (hS.r0.2 2 (3, 0) rfl) ?_
            have hk3 : tOK mb pn (cKp N2 nx2 mn2 3) := by rw [cKp_no N2 mn2 (by decide) (by omega)]; exact hk2
            refine V_in1 3 ?_
            refine V_iv0 dX6_ticks_64 wlX6_154 mdX5_pass miX5_pass rfl ((hS.tr 3 rfl).1 0 (0, 5) rfl) rfl rfl (kX5_pass (hS.tr 3 rfl) hk3.e2 hk3.mb hk3.safe ⟨rfl, ?_⟩)
            refine V_incN2 dX6_ticks_67 rfl ?_
            refine V_goto (tgt := 44) dX6_ticks_70 (by decide) ?_
            rw [show n - i = n - (i + 1) + 1 by omega, cTks] at hq
            exact hni (by omega) (cTk1 N2 nx2 mn2 mb) _ _ (by unfold cTk1 cKp; rw [va_up_no _ _ (show (5 : Nat) ≠ 3 by decide), va_up_eq]; exact cKeep_1 _ _ _) (Nat.mod_lt _ (by decide)) (by unfold cTk1 cKp; rw [va_up_no _ _ (show (5 : Nat) ≠ 3 by decide), va_up_eq]; exact cKeep_2 _ _ hm24) (nxA_le hm24) (by unfold cTk1; rw [va_up_eq]; exact hk3.pass) hq
        · skip
          refine V_ldc dX6_ticks_39 wkX6_112 ?_
          refine V_ireturn dX6_ticks_41 ⟨_, rfl, vp_nar_int _⟩ ?_
          exact hF c4 hP (Int32.not_le.mp c36)
      · skip
        refine V_ldc dX6_ticks_21 wkX6_69 ?_
        refine V_ireturn dX6_ticks_23 ⟨_, rfl, vp_nar_int _⟩ ?_
        exact hB c4 (fun h => h.2 (Int32.not_le.mp c18))
  · skip
    refine V_ldc dX6_ticks_7 wkX6_143 ?_
    refine V_ireturn dX6_ticks_9 ⟨_, rfl, vp_nar_int _⟩ ?_
    exact h0 c4
end K6
