section KS
variable {d : Nat} {b : Nat × Nat} {Y : xY} {G : xG} {N : xM} {E T S : xT} {Q : Option xAV → xY → xG → xM → Prop}
theorem kX3_most (hS : xSt Y G) (hQ : Q (some (xI (E 0 9))) Y G (va_up N 30 E)) : V RX3 false cX3_most 1 (some .int) none d b 0 [some (xR 30 0)] [] Y G (va_up N 30 E) Q := by
  refine V_ald0 dX3_most_0 ?_
  refine V_getIr dX3_most_1 flX3_44 (hS.r30.1 0 (0, 3) rfl) ?_
  refine V_ireturn dX3_most_4 ⟨_, rfl, vp_nar_int _⟩ ?_
  exact hQ
theorem kX3_chosen (hS : xSt Y G) (hQ : Q (some (xI (E 0 10))) Y G (va_up N 30 E)) : V RX3 false cX3_chosen 1 (some .int) none d b 0 [some (xR 30 0)] [] Y G (va_up N 30 E) Q := by
  refine V_ald0 dX3_chosen_0 ?_
  refine V_getIr dX3_chosen_1 flX3_47 (hS.r30.1 0 (0, 3) rfl) ?_
  refine V_ireturn dX3_chosen_4 ⟨_, rfl, vp_nar_int _⟩ ?_
  exact hQ
theorem kX3_chosenAt (hS : xSt Y G) {k : Nat} (hk : k < 6) (hQ : Q (some (xI (E 5 k))) Y G (va_up N 30 E)) : V RX3 false cX3_chosenAt 2 (some .int) none d b 0 [some (xR 30 0), some (xI (nI k))] [] Y G (va_up N 30 E) Q := by
  refine V_ild1 dX3_chosenAt_0 ?_
  refine V_iflt (tgt := 19) dX3_chosenAt_1 (by decide) (fun c1 => ?_) (fun c1 => ?_)
  · exact absurd c1 (nI_pos (by omega))
  · skip
    refine V_ild1 dX3_chosenAt_4 ?_
    refine V_bipush (v := nI 6) dX3_chosenAt_5 (by decide) ?_
    refine V_icmpgeN (tgt := 19) dX3_chosenAt_7 (by decide) (by omega) (by omega) (fun c7 => ?_) (fun c7 => ?_)
    · exact absurd c7 (by omega)
    · skip
      refine V_ald0 dX3_chosenAt_10 ?_
      refine V_getR dX3_chosenAt_11 flX3_28 (hS.r30.1 0 (0, 3) rfl) (hS.r30.2 4 (30, 5) rfl) ?_
      refine V_ild1 dX3_chosenAt_14 ?_
      refine V_iar dX3_chosenAt_15 (hS.r30.1 5 (1, 6) rfl) (by omega) (by decide) ?_
      refine V_goto (tgt := 21) dX3_chosenAt_16 (by decide) ?_
      refine V_ireturn dX3_chosenAt_21 ⟨_, rfl, vp_nar_int _⟩ ?_
      exact hQ
theorem kX3_goOn (hS : xSt Y G) {mb pn : Nat} (hk : tOK mb pn T) {n : Nat} (hn : n ≤ 60) (hQ : Q none Y G (va_up N 31 (tRunOn mb n T))) : V RX3 false cX3_goOn 3 none none (d + 3) b 0 [some (xR 30 0), some (xI (nI n)), none] [] Y G (va_up N 31 T) Q := by
  refine V_iconst (v := nI 0) dX3_goOn_0 (by decide) ?_
  refine V_ist2 dX3_goOn_1 rfl ?_
  refine xDown (P := fun i => ∀ T, tOK mb pn T → Q none Y G (va_up N 31 (tRunOn mb (n - i) T)) → V RX3 false cX3_goOn 3 none none (d + 3) b 2 [some (xR 30 0), some (xI (nI n)), some (xI (nI i))] [] Y G (va_up N 31 T) Q) n ?_ 0 (Nat.zero_le _) T hk hQ 
  intro i hii hni T hk hq
  refine V_ild2 dX3_goOn_2 ?_
  refine V_ild1 dX3_goOn_3 ?_
  refine V_icmpgeN (tgt := 30) dX3_goOn_4 (by decide) (by omega) (by omega) (fun c4 => ?_) (fun c4 => ?_)
  · skip
    refine V_return dX3_goOn_30 rfl ?_
    rw [show n - i = 0 by omega, tRunOn] at hq
    exact hq
  · skip
    refine V_ald0 dX3_goOn_7 ?_
    refine V_getR dX3_goOn_8 flX3_12 (hS.r30.1 0 (0, 3) rfl) (hS.r30.2 0 (31, 0) rfl) ?_
    refine V_iv0 dX3_goOn_11 wlX3_59 mdX5_isAstir miX5_isAstir rfl ((hS.tr 31 rfl).1 0 (0, 5) rfl) rfl rfl (kX5_isAstir (hS.tr 31 rfl) hk.e2 hk.mb ⟨rfl, ?_⟩)
    refine V_ifeqB (tgt := 30) dX3_goOn_14 (by decide) (fun c14 => ?_) (fun c14 => ?_)
    · skip
      refine V_return dX3_goOn_30 rfl ?_
      rw [show n - i = n - (i + 1) + 1 by omega, tRunOn, if_neg c14] at hq
      exact hq
    · skip
      refine V_ald0 dX3_goOn_17 ?_
      refine V_getR dX3_goOn_18 flX3_12 (hS.r30.1 0 (0, 3) rfl) (hS.r30.2 0 (31, 0) rfl) ?_
      refine V_iv0 dX3_goOn_21 wlX3_63 mdX5_pass miX5_pass rfl ((hS.tr 31 rfl).1 0 (0, 5) rfl) rfl rfl (kX5_pass (hS.tr 31 rfl) hk.e2 hk.mb hk.safe ⟨rfl, ?_⟩)
      refine V_incN2 dX3_goOn_24 rfl ?_
      refine V_goto (tgt := 2) dX3_goOn_27 (by decide) ?_
      rw [show n - i = n - (i + 1) + 1 by omega, tRunOn, if_pos c14] at hq
      exact hni (by omega) _ hk.pass hq
theorem kX3_behind (hS : xSt Y G) (hN3 : N 3 = S) {mb pn : Nat} (hk : tOK mb pn S) {n : Nat} (hn : n ≤ 60) (hQ : Q (some (xR 31 0)) Y G (va_up N 31 (tRunOn mb n (tLike T S)))) : V RX3 false cX3_behind 3 (some (.object "MarbleRun$Track")) none (d + 4) b 0 [some (xR 30 0), some (xR 3 0), some (xI (nI n))] [] Y G (va_up N 31 T) Q := by
  refine V_ald0 dX3_behind_0 ?_
  refine V_getR dX3_behind_1 flX3_12 (hS.r30.1 0 (0, 3) rfl) (hS.r30.2 0 (31, 0) rfl) ?_
  refine V_ald1 dX3_behind_4 ?_
  refine V_iv1 dX3_behind_5 wlX3_51 mdX5_becomeLike miX5_becomeLike rfl ((hS.tr 31 rfl).1 0 (0, 5) rfl) rfl rfl (kX5_becomeLike (hS.tr 31 rfl) (hS.tr 3 rfl) (by decide) (by first | exact hN3 | (rw [va_up_no _ _ (by decide)]; exact hN3)) ⟨rfl, ?_⟩)
  refine V_ald0 dX3_behind_8 ?_
  refine V_ild2 dX3_behind_9 ?_
  refine V_iv1 dX3_behind_10 wlX3_55 mdX3_goOn miX3_goOn rfl (hS.r30.1 0 (0, 3) rfl) rfl rfl (kX3_goOn hS (hk.like T) (by omega) ⟨rfl, ?_⟩)
  refine V_ald0 dX3_behind_13 ?_
  refine V_getR dX3_behind_14 flX3_12 (hS.r30.1 0 (0, 3) rfl) (hS.r30.2 0 (31, 0) rfl) ?_
  refine V_areturn dX3_behind_17 ⟨⟨_, rfl, Or.inl ⟨_, rfl⟩⟩, fun a ha => ⟨_, by cases ha; exact (hS.tr 31 rfl).1 0 (0, 5) rfl⟩⟩ ?_
  exact hQ
def tTT (mb m : Nat) : Nat → Nat → xT → Int32
  | 0, _, _ => -1000000
  | k + 1, t, T => if tInTray T m then nI t else tTT mb m k (t + 1) (tPass T mb)
def tTR (mb : Nat) : Nat → Nat → xT → Int32
  | 0, _, _ => -1000000
  | k + 1, t, T => if tAst T mb = true then tTR mb k (t + 1) (tPass T mb) else nI t
theorem kX3_ticksToTray (hS : xSt Y G) (hN3 : N 3 = S) {mb pn : Nat} (hk : tOK mb pn S) {m : Nat} (hm : m < mb) (hQ : ∀ T2, Q (some (xI (tTT mb m 61 0 (tLike T S)))) Y G (va_up N 31 T2)) : V RX3 false cX3_ticksToTray 5 (some .int) none (d + 3) b 0 [some (xR 30 0), some (xR 3 0), some (xI (nI m)), some (xI (nI 60)), none] [] Y G (va_up N 31 T) Q := by
  refine V_ald0 dX3_ticksToTray_0 ?_
  refine V_getR dX3_ticksToTray_1 flX3_12 (hS.r30.1 0 (0, 3) rfl) (hS.r30.2 0 (31, 0) rfl) ?_
  refine V_ald1 dX3_ticksToTray_4 ?_
  refine V_iv1 dX3_ticksToTray_5 wlX3_51 mdX5_becomeLike miX5_becomeLike rfl ((hS.tr 31 rfl).1 0 (0, 5) rfl) rfl rfl (kX5_becomeLike (hS.tr 31 rfl) (hS.tr 3 rfl) (by decide) (by first | exact hN3 | (rw [va_up_no _ _ (by decide)]; exact hN3)) ⟨rfl, ?_⟩)
  refine V_iconst (v := nI 0) dX3_ticksToTray_8 (by decide) ?_
  refine V_ist4 dX3_ticksToTray_9 rfl ?_
  refine xDown (P := fun i => ∀ T, tOK mb pn T → (∀ T2, Q (some (xI (tTT mb m (61 - i) i T))) Y G (va_up N 31 T2)) → V RX3 false cX3_ticksToTray 5 (some .int) none (d + 3) b 11 [some (xR 30 0), some (xR 3 0), some (xI (nI m)), some (xI (nI 60)), some (xI (nI i))] [] Y G (va_up N 31 T) Q) 61 ?_ 0 (Nat.zero_le _) _ (hk.like T) hQ 
  intro i hii hni T hk hq
  refine V_ild4 dX3_ticksToTray_11 ?_
  refine V_ild3 dX3_ticksToTray_13 ?_
  refine V_icmpgtN (tgt := 44) dX3_ticksToTray_14 (by decide) (by omega) (by omega) (fun c14 => ?_) (fun c14 => ?_)
  · skip
    refine V_ldc dX3_ticksToTray_44 wkX3_50 ?_
    refine V_ireturn dX3_ticksToTray_46 ⟨_, rfl, vp_nar_int _⟩ ?_
    rw [show 61 - i = 0 by omega, tTT] at hq
    exact hq _
  · skip
    refine V_ald0 dX3_ticksToTray_17 ?_
    refine V_getR dX3_ticksToTray_18 flX3_12 (hS.r30.1 0 (0, 3) rfl) (hS.r30.2 0 (31, 0) rfl) ?_
    refine V_ild2 dX3_ticksToTray_21 ?_
    refine V_iv1 dX3_ticksToTray_22 wlX3_66 mdX5_isInTray miX5_isInTray rfl ((hS.tr 31 rfl).1 0 (0, 5) rfl) rfl rfl (kX5_isInTray (hS.tr 31 rfl) (by have := hk.mb; omega) ⟨rfl, ?_⟩)
    refine V_ifeqB (tgt := 31) dX3_ticksToTray_25 (by decide) (fun c25 => ?_) (fun c25 => ?_)
    · skip
      refine V_ald0 dX3_ticksToTray_31 ?_
      refine V_getR dX3_ticksToTray_32 flX3_12 (hS.r30.1 0 (0, 3) rfl) (hS.r30.2 0 (31, 0) rfl) ?_
      refine V_iv0 dX3_ticksToTray_35 wlX3_63 mdX5_pass miX5_pass rfl ((hS.tr 31 rfl).1 0 (0, 5) rfl) rfl rfl (kX5_pass (hS.tr 31 rfl) hk.e2 hk.mb hk.safe ⟨rfl, ?_⟩)
      refine V_incN4 dX3_ticksToTray_38 rfl ?_
      refine V_goto (tgt := 11) dX3_ticksToTray_41 (by decide) ?_
      rw [show 61 - i = 61 - (i + 1) + 1 by omega, tTT, if_neg c25] at hq
      exact hni (by omega) _ hk.pass hq
    · skip
      refine V_ild4 dX3_ticksToTray_28 ?_
      refine V_ireturn dX3_ticksToTray_30 ⟨_, rfl, vp_nar_int _⟩ ?_
      rw [show 61 - i = 61 - (i + 1) + 1 by omega, tTT, if_pos c25] at hq
      exact hq _
theorem kX3_ticksToRest (hS : xSt Y G) (hN3 : N 3 = S) {mb pn : Nat} (hk : tOK mb pn S) (hQ : ∀ T2, Q (some (xI (tTR mb 61 0 (tLike T S)))) Y G (va_up N 31 T2)) : V RX3 false cX3_ticksToRest 4 (some .int) none (d + 3) b 0 [some (xR 30 0), some (xR 3 0), some (xI (nI 60)), none] [] Y G (va_up N 31 T) Q := by
  refine V_ald0 dX3_ticksToRest_0 ?_
  refine V_getR dX3_ticksToRest_1 flX3_12 (hS.r30.1 0 (0, 3) rfl) (hS.r30.2 0 (31, 0) rfl) ?_
  refine V_ald1 dX3_ticksToRest_4 ?_
  refine V_iv1 dX3_ticksToRest_5 wlX3_51 mdX5_becomeLike miX5_becomeLike rfl ((hS.tr 31 rfl).1 0 (0, 5) rfl) rfl rfl (kX5_becomeLike (hS.tr 31 rfl) (hS.tr 3 rfl) (by decide) (by first | exact hN3 | (rw [va_up_no _ _ (by decide)]; exact hN3)) ⟨rfl, ?_⟩)
  refine V_iconst (v := nI 0) dX3_ticksToRest_8 (by decide) ?_
  refine V_ist3 dX3_ticksToRest_9 rfl ?_
  refine xDown (P := fun i => ∀ T, tOK mb pn T → (∀ T2, Q (some (xI (tTR mb (61 - i) i T))) Y G (va_up N 31 T2)) → V RX3 false cX3_ticksToRest 4 (some .int) none (d + 3) b 10 [some (xR 30 0), some (xR 3 0), some (xI (nI 60)), some (xI (nI i))] [] Y G (va_up N 31 T) Q) 61 ?_ 0 (Nat.zero_le _) _ (hk.like T) hQ 
  intro i hii hni T hk hq
  refine V_ild3 dX3_ticksToRest_10 ?_
  refine V_ild2 dX3_ticksToRest_11 ?_
  refine V_icmpgtN (tgt := 40) dX3_ticksToRest_12 (by decide) (by omega) (by omega) (fun c12 => ?_) (fun c12 => ?_)
  · skip
    refine V_ldc dX3_ticksToRest_40 wkX3_50 ?_
    refine V_ireturn dX3_ticksToRest_42 ⟨_, rfl, vp_nar_int _⟩ ?_
    rw [show 61 - i = 0 by omega, tTR] at hq
    exact hq _
  · skip
    refine V_ald0 dX3_ticksToRest_15 ?_
    refine V_getR dX3_ticksToRest_16 flX3_12 (hS.r30.1 0 (0, 3) rfl) (hS.r30.2 0 (31, 0) rfl) ?_
    refine V_iv0 dX3_ticksToRest_19 wlX3_59 mdX5_isAstir miX5_isAstir rfl ((hS.tr 31 rfl).1 0 (0, 5) rfl) rfl rfl (kX5_isAstir (hS.tr 31 rfl) hk.e2 hk.mb ⟨rfl, ?_⟩)
    refine V_ifneB (tgt := 27) dX3_ticksToRest_22 (by decide) (fun c22 => ?_) (fun c22 => ?_)
    · skip
      refine V_ald0 dX3_ticksToRest_27 ?_
      refine V_getR dX3_ticksToRest_28 flX3_12 (hS.r30.1 0 (0, 3) rfl) (hS.r30.2 0 (31, 0) rfl) ?_
      refine V_iv0 dX3_ticksToRest_31 wlX3_63 mdX5_pass miX5_pass rfl ((hS.tr 31 rfl).1 0 (0, 5) rfl) rfl rfl (kX5_pass (hS.tr 31 rfl) hk.e2 hk.mb hk.safe ⟨rfl, ?_⟩)
      refine V_incN3 dX3_ticksToRest_34 rfl ?_
      refine V_goto (tgt := 10) dX3_ticksToRest_37 (by decide) ?_
      rw [show 61 - i = 61 - (i + 1) + 1 by omega, tTR, if_pos c22] at hq
      exact hni (by omega) _ hk.pass hq
    · skip
      refine V_ild3 dX3_ticksToRest_25 ?_
      refine V_ireturn dX3_ticksToRest_26 ⟨_, rfl, vp_nar_int _⟩ ?_
      rw [show 61 - i = 61 - (i + 1) + 1 by omega, tTR, if_neg c22] at hq
      exact hq _
/-- whether a set is taken instead of the one before -/
abbrev cPref (m c : Int32) (k v : Int32) : Prop := m < v ∨ (v = m ∧ jBC k < jBC c)
theorem kX3_preferTips (hS : xSt Y G) {k v : Int32} (h1 : cPref (E 0 9) (E 0 10) k v → ∀ E2, E2 0 9 = v → E2 0 10 = k → (∀ c, c ≠ 0 → E2 c = E c) → Q none Y G (va_up N 30 E2)) (h0 : ¬ cPref (E 0 9) (E 0 10) k v → Q none Y G (va_up N 30 E)) : V RX3 false cX3_preferTips 4 none none (d + 1) b 0 [some (xR 30 0), some (xI k), some (xI v), none] [] Y G (va_up N 30 E) Q := by
  refine V_ild1 dX3_preferTips_0 ?_
  refine V_is1 dX3_preferTips_1 wlX3_85 mdJ6_bitCount_0f7a4 msJ6_bitCount_0f7a4 rfl rfl (kJ6_bitCount ⟨rfl, ?_⟩)
  refine V_ald0 dX3_preferTips_4 ?_
  refine V_getIr dX3_preferTips_5 flX3_47 (hS.r30.1 0 (0, 3) rfl) ?_
  refine V_is1 dX3_preferTips_8 wlX3_85 mdJ6_bitCount_0f7a4 msJ6_bitCount_0f7a4 rfl rfl (kJ6_bitCount ⟨rfl, ?_⟩)
  refine V_icmpge (tgt := 18) dX3_preferTips_11 (by decide) (fun c11 => ?_) (fun c11 => ?_)
  · skip
    refine V_iconst (v := nI 0) dX3_preferTips_18 (by decide) ?_
    refine V_ist3 dX3_preferTips_19 rfl ?_
    refine V_ild2 dX3_preferTips_20 ?_
    refine V_ald0 dX3_preferTips_21 ?_
    refine V_getIr dX3_preferTips_22 flX3_44 (hS.r30.1 0 (0, 3) rfl) ?_
    refine V_icmpgt (tgt := 40) dX3_preferTips_25 (by decide) (fun c25 => ?_) (fun c25 => ?_)
    · skip
      refine V_ald0 dX3_preferTips_40 ?_
      refine V_ild2 dX3_preferTips_41 ?_
      refine V_putIr dX3_preferTips_42 fwX3_44 (hS.r30.1 0 (0, 3) rfl) ?_
      refine V_ald0 dX3_preferTips_45 ?_
      refine V_ild1 dX3_preferTips_46 ?_
      refine V_putIr dX3_preferTips_47 fwX3_47 (hS.r30.1 0 (0, 3) rfl) ?_
      refine V_return dX3_preferTips_50 rfl ?_
      exact h1 (Or.inl c25) _ rfl rfl (fun c hc => (va_up_no _ _ hc).trans (va_up_no _ _ hc))
    · skip
      refine V_ild2 dX3_preferTips_28 ?_
      refine V_ald0 dX3_preferTips_29 ?_
      refine V_getIr dX3_preferTips_30 flX3_44 (hS.r30.1 0 (0, 3) rfl) ?_
      refine V_icmpne (tgt := 50) dX3_preferTips_33 (by decide) (fun c33 => ?_) (fun c33 => ?_)
      · skip
        refine V_return dX3_preferTips_50 rfl ?_
        exact h0 (fun h => h.elim c25 (fun h => c33 h.1))
      · skip
        refine V_ild3 dX3_preferTips_36 ?_
        refine V_ifeq (tgt := 50) dX3_preferTips_37 (by decide) (fun c37 => ?_) (fun c37 => ?_)
        · skip
          refine V_return dX3_preferTips_50 rfl ?_
          exact h0 (fun h => h.elim c25 (fun h => absurd c11 (Int32.not_le.mpr h.2)))
        · exact absurd (show nI 0 = (0 : Int32) by decide) c37
  · skip
    refine V_iconst (v := nI 1) dX3_preferTips_14 (by decide) ?_
    refine V_goto (tgt := 19) dX3_preferTips_15 (by decide) ?_
    refine V_ist3 dX3_preferTips_19 rfl ?_
    refine V_ild2 dX3_preferTips_20 ?_
    refine V_ald0 dX3_preferTips_21 ?_
    refine V_getIr dX3_preferTips_22 flX3_44 (hS.r30.1 0 (0, 3) rfl) ?_
    refine V_icmpgt (tgt := 40) dX3_preferTips_25 (by decide) (fun c25 => ?_) (fun c25 => ?_)
    · skip
      refine V_ald0 dX3_preferTips_40 ?_
      refine V_ild2 dX3_preferTips_41 ?_
      refine V_putIr dX3_preferTips_42 fwX3_44 (hS.r30.1 0 (0, 3) rfl) ?_
      refine V_ald0 dX3_preferTips_45 ?_
      refine V_ild1 dX3_preferTips_46 ?_
      refine V_putIr dX3_preferTips_47 fwX3_47 (hS.r30.1 0 (0, 3) rfl) ?_
      refine V_return dX3_preferTips_50 rfl ?_
      exact h1 (Or.inl c25) _ rfl rfl (fun c hc => (va_up_no _ _ hc).trans (va_up_no _ _ hc))
    · skip
      refine V_ild2 dX3_preferTips_28 ?_
      refine V_ald0 dX3_preferTips_29 ?_
      refine V_getIr dX3_preferTips_30 flX3_44 (hS.r30.1 0 (0, 3) rfl) ?_
      refine V_icmpne (tgt := 50) dX3_preferTips_33 (by decide) (fun c33 => ?_) (fun c33 => ?_)
      · skip
        refine V_return dX3_preferTips_50 rfl ?_
        exact h0 (fun h => h.elim c25 (fun h => c33 h.1))
      · skip
        refine V_ild3 dX3_preferTips_36 ?_
        refine V_ifeq (tgt := 50) dX3_preferTips_37 (by decide) (fun c37 => ?_) (fun c37 => ?_)
        · exact absurd c37 (by decide)
        · skip
          refine V_ald0 dX3_preferTips_40 ?_
          refine V_ild2 dX3_preferTips_41 ?_
          refine V_putIr dX3_preferTips_42 fwX3_44 (hS.r30.1 0 (0, 3) rfl) ?_
          refine V_ald0 dX3_preferTips_45 ?_
          refine V_ild1 dX3_preferTips_46 ?_
          refine V_putIr dX3_preferTips_47 fwX3_47 (hS.r30.1 0 (0, 3) rfl) ?_
          refine V_return dX3_preferTips_50 rfl ?_
          exact h1 (Or.inr ⟨c33, Int32.not_le.mp c11⟩) _ rfl rfl (fun c hc => (va_up_no _ _ hc).trans (va_up_no _ _ hc))
end KS
