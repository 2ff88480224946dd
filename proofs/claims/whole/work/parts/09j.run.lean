section K6
variable {d : Nat} {b : Nat × Nat} {Y : xY} {G : xG} {N : xM} {T : xT} {Q : Option xAV → xY → xG → xM → Prop}
theorem kX6_image (hS : xSt Y G) (hN3 : N 3 = T) {mb pn : Nat} (hc : cSt T mb pn) {a : Int32} (hB : ¬ rIn a (nI 0) (nI 1) → Q (some (xI (-1000001))) Y G N) (h0 : rIn a (nI 0) (nI 1) → nI pn = 0 → Q (some (xI (-1000002))) Y G N) (hO : ∀ k, a = nI k → k ≤ 1 → ¬ nI pn = 0 → Q (some (xI 1)) Y G (va_up N (33 + k) (tLike (N (33 + k)) T))) : V RX6 false cX6_image 2 (some .int) none (d + 2) b 0 [some (xR 0 0), some (xI a)] [] Y G N Q := by
  refine V_ild1 dX6_image_0 ?_
  refine V_iconst (v := nI 0) dX6_image_1 (by decide) ?_
  refine V_iconst (v := nI 1) dX6_image_2 (by decide) ?_
  refine V_is3 dX6_image_3 wlX6_217 mdX6_outside msX6_outside rfl rfl (kX6_outside ⟨rfl, ?_⟩)
  refine V_ifeqB (tgt := 12) dX6_image_6 (by decide) (fun c6 => ?_) (fun c6 => ?_)
  · replace c6 := Classical.not_not.mp c6
    refine V_ald0 dX6_image_12 ?_
    refine V_iv0 dX6_image_13 wlX6_144 mdX6_noRun miX6_noRun rfl (hS.r0.1 0 (0, 6) rfl) rfl rfl (kX6_noRun hS hN3 hc ⟨rfl, ?_⟩)
    refine V_ifeqB (tgt := 22) dX6_image_16 (by decide) (fun c16 => ?_) (fun c16 => ?_)
    · skip
      obtain ⟨k, hk0, hk1, rfl⟩ := rIn_k c6 (by decide) (by decide)
      have htk : isTr (33 + k) = true := by
        obtain rfl | rfl : k = 0 ∨ k = 1 := by omega
        · rfl
        · rfl
      refine V_ald0 dX6_image_22 ?_
      refine V_getR dX6_image_23 flX6_54 (hS.r0.1 0 (0, 6) rfl) (hS.r0.2 7 (0, 8) rfl) ?_
      refine V_ild1 dX6_image_26 ?_
      refine V_aaN dX6_image_27 (hS.r0.1 8 (2, 2) rfl) (by omega) (by decide) (hS.im (by omega)) ?_
      refine V_ald0 dX6_image_28 ?_
      refine V_getR dX6_image_29 flX6_26 (hS.r0.1 0 (0, 6) rfl) (hS.r0.2 2 (3, 0) rfl) ?_
      refine V_in1 (33 + k) ?_
      refine V_iv1 dX6_image_32 wlX6_127 mdX5_becomeLike miX5_becomeLike rfl ((hS.tr (33 + k) htk).1 0 (0, 5) rfl) rfl rfl (kX5_becomeLike (hS.tr (33 + k) htk) (hS.tr 3 rfl) (by omega) hN3 ⟨rfl, ?_⟩)
      refine V_iconst (v := 1) dX6_image_35 (by decide) ?_
      refine V_ireturn dX6_image_36 ⟨_, rfl, vp_nar_int _⟩ ?_
      exact hO k rfl hk1 c16
    · skip
      refine V_ldc dX6_image_19 wkX6_143 ?_
      refine V_ireturn dX6_image_21 ⟨_, rfl, vp_nar_int _⟩ ?_
      exact h0 c6 c16
  · skip
    refine V_ldc dX6_image_9 wkX6_69 ?_
    refine V_ireturn dX6_image_11 ⟨_, rfl, vp_nar_int _⟩ ?_
    exact hB c6
theorem kX6_restore (hS : xSt Y G) {a : Int32} (hB : ¬ rIn a (nI 0) (nI 1) → Q (some (xI (-1000001))) Y G N) (h0 : ∀ k, a = nI k → k ≤ 1 → N (33 + k) 0 3 = 0 → Q (some (xI (-1000002))) Y G N) (hO : ∀ k, a = nI k → k ≤ 1 → ¬ N (33 + k) 0 3 = 0 → Q (some (xI 1)) Y G (va_up (va_up N 3 (tLike (N 3) (N (33 + k)))) 5 (va_up (N 5) 0 (upd (N 5 0) 2 (nI 0))))) : V RX6 false cX6_restore 2 (some .int) none (d + 2) b 0 [some (xR 0 0), some (xI a)] [] Y G N Q := by
  refine V_ild1 dX6_restore_0 ?_
  refine V_iconst (v := nI 0) dX6_restore_1 (by decide) ?_
  refine V_iconst (v := nI 1) dX6_restore_2 (by decide) ?_
  refine V_is3 dX6_restore_3 wlX6_217 mdX6_outside msX6_outside rfl rfl (kX6_outside ⟨rfl, ?_⟩)
  refine V_ifeqB (tgt := 12) dX6_restore_6 (by decide) (fun c6 => ?_) (fun c6 => ?_)
  · replace c6 := Classical.not_not.mp c6
    obtain ⟨k, hk0, hk1, rfl⟩ := rIn_k c6 (by decide) (by decide)
    have htk : isTr (33 + k) = true := by
      obtain rfl | rfl : k = 0 ∨ k = 1 := by omega
      · rfl
      · rfl
    refine V_ald0 dX6_restore_12 ?_
    refine V_getR dX6_restore_13 flX6_54 (hS.r0.1 0 (0, 6) rfl) (hS.r0.2 7 (0, 8) rfl) ?_
    refine V_ild1 dX6_restore_16 ?_
    refine V_aaN dX6_restore_17 (hS.r0.1 8 (2, 2) rfl) (by omega) (by decide) (hS.im (by omega)) ?_
    refine V_getI dX6_restore_18 flX6_134 ((hS.tr (33 + k) htk).1 0 (0, 5) rfl) ?_
    refine V_ifne (tgt := 27) dX6_restore_21 (by decide) (fun c21 => ?_) (fun c21 => ?_)
    · skip
      refine V_ald0 dX6_restore_27 ?_
      refine V_getR dX6_restore_28 flX6_26 (hS.r0.1 0 (0, 6) rfl) (hS.r0.2 2 (3, 0) rfl) ?_
      refine V_ald0 dX6_restore_31 ?_
      refine V_getR dX6_restore_32 flX6_54 (hS.r0.1 0 (0, 6) rfl) (hS.r0.2 7 (0, 8) rfl) ?_
      refine V_ild1 dX6_restore_35 ?_
      refine V_aaN dX6_restore_36 (hS.r0.1 8 (2, 2) rfl) (by omega) (by decide) (hS.im (by omega)) ?_
      refine V_in1 3 ?_
      refine V_iv1 dX6_restore_37 wlX6_127 mdX5_becomeLike miX5_becomeLike rfl ((hS.tr 3 rfl).1 0 (0, 5) rfl) rfl rfl (kX5_becomeLike (hS.tr 3 rfl) (hS.tr (33 + k) htk) (by omega) rfl ⟨rfl, ?_⟩)
      refine V_ald0 dX6_restore_40 ?_
      refine V_getR dX6_restore_41 flX6_36 (hS.r0.1 0 (0, 6) rfl) (hS.r0.2 4 (5, 0) rfl) ?_
      refine V_in1 5 ?_
      refine V_iv0 dX6_restore_44 wlX6_131 mdX0_forget miX0_forget rfl (hS.r5.1 0 (0, 0) rfl) rfl rfl (kX0_forget hS ⟨rfl, ?_⟩)
      refine V_iconst (v := 1) dX6_restore_47 (by decide) ?_
      refine V_ireturn dX6_restore_48 ⟨_, rfl, vp_nar_int _⟩ ?_
      exact hO k rfl hk1 c21
    · skip
      refine V_ldc dX6_restore_24 wkX6_143 ?_
      refine V_ireturn dX6_restore_26 ⟨_, rfl, vp_nar_int _⟩ ?_
      exact h0 k rfl hk1 c21
  · skip
    refine V_ldc dX6_restore_9 wkX6_69 ?_
    refine V_ireturn dX6_restore_11 ⟨_, rfl, vp_nar_int _⟩ ?_
    exact hB c6
theorem kX6_ask (hS : xSt Y G) (hN3 : N 3 = T) {mb pn : Nat} (hc : cSt T mb pn) (hso : ∀ p, p < pn → ∃ s, 1 ≤ s ∧ s ≤ 5 ∧ T 9 p = nI s) {a y : Int32} (hB : ¬ (rIn a (nI 0) (nI pn - nI 1) ∧ rIn y (nI 0) (nI 1)) → Q (some (xI (-1000001))) Y G N) (hO : ∀ p s, rIn a (nI 0) (nI pn - nI 1) ∧ rIn y (nI 0) (nI 1) → a = nI p → p < pn → T 9 p = nI s → 1 ≤ s → s ≤ 5 → Q (some (xI (cAsk T p s y))) Y G (va_up N 32 (cApp (va_up (N 32) 0 (upd (N 32 0) 1 (nI 0))) 0 (cAskL s y)))) : V RX6 false cX6_ask 3 (some .int) none (d + 8) b 0 [some (xR 0 0), some (xI a), some (xI y)] [] Y G N Q := by
  refine V_ald0 dX6_ask_0 ?_
  refine V_ild1 dX6_ask_1 ?_
  refine V_iv1 dX6_ask_2 wlX6_160 mdX6_noPiece miX6_noPiece rfl (hS.r0.1 0 (0, 6) rfl) rfl rfl (kX6_noPiece hS hN3 hc ⟨rfl, ?_⟩)
  refine V_ifneB (tgt := 17) dX6_ask_5 (by decide) (fun c5 => ?_) (fun c5 => ?_)
  · skip
    refine V_ldc dX6_ask_17 wkX6_69 ?_
    refine V_ireturn dX6_ask_19 ⟨_, rfl, vp_nar_int _⟩ ?_
    exact hB (fun h => c5 h.1)
  · replace c5 := Classical.not_not.mp c5
    refine V_ild2 dX6_ask_8 ?_
    refine V_iconst (v := nI 0) dX6_ask_9 (by decide) ?_
    refine V_iconst (v := nI 1) dX6_ask_10 (by decide) ?_
    refine V_is3 dX6_ask_11 wlX6_217 mdX6_outside msX6_outside rfl rfl (kX6_outside ⟨rfl, ?_⟩)
    refine V_ifeqB (tgt := 20) dX6_ask_14 (by decide) (fun c14 => ?_) (fun c14 => ?_)
    · replace c14 := Classical.not_not.mp c14
      have hP : rIn a (nI 0) (nI pn - nI 1) ∧ rIn y (nI 0) (nI 1) := ⟨c5, c14⟩
      obtain ⟨p, hp, rfl⟩ := rIn_m c5 (by have := hc.b6; omega)
      have hb := hc.b6
      obtain ⟨s, hs1, hs5, es⟩ := hso p hp
      have hq := hO p s hP rfl hp es hs1 hs5
      unfold cAsk cAskL at hq
      refine V_ald0 dX6_ask_20 ?_
      refine V_getR dX6_ask_21 flX6_50 (hS.r0.1 0 (0, 6) rfl) (hS.r0.2 6 (32, 0) rfl) ?_
      refine V_in1 32 ?_
      refine V_iv0 dX6_ask_24 wlX6_315 mdX1_emptyTrace miX1_emptyTrace rfl (hS.r32.1 0 (0, 1) rfl) rfl rfl (kX1_emptyTrace hS ⟨rfl, ?_⟩)
      refine V_ild2 dX6_ask_27 ?_
      refine V_ifne (tgt := 46) dX6_ask_28 (by decide) (fun c28 => ?_) (fun c28 => ?_)
      · skip
        refine V_ald0 dX6_ask_46 ?_
        refine V_getR dX6_ask_47 flX6_50 (hS.r0.1 0 (0, 6) rfl) (hS.r0.2 6 (32, 0) rfl) ?_
        refine V_ald0 dX6_ask_50 ?_
        refine V_getR dX6_ask_51 flX6_26 (hS.r0.1 0 (0, 6) rfl) (hS.r0.2 2 (3, 0) rfl) ?_
        refine V_ild1 dX6_ask_54 ?_
        refine V_iv2 dX6_ask_55 wlX6_321 mdX1_mark miX1_mark rfl (hS.r32.1 0 (0, 1) rfl) rfl rfl (kX1_mark hS (hS.tr 3 rfl) (by decide) hN3 (by omega) (k := 0) rfl es ⟨hs1, hs5⟩ rfl ⟨rfl, ?_⟩)
        refine V_ireturn dX6_ask_58 ⟨_, rfl, vp_nar_int _⟩ ?_
        rw [if_neg c28, if_neg c28] at hq
        exact hq
      · skip
        refine V_ald0 dX6_ask_31 ?_
        refine V_getR dX6_ask_32 flX6_50 (hS.r0.1 0 (0, 6) rfl) (hS.r0.2 6 (32, 0) rfl) ?_
        refine V_ald0 dX6_ask_35 ?_
        refine V_getR dX6_ask_36 flX6_26 (hS.r0.1 0 (0, 6) rfl) (hS.r0.2 2 (3, 0) rfl) ?_
        refine V_ild1 dX6_ask_39 ?_
        refine V_iv2 dX6_ask_40 wlX6_318 mdX1_size miX1_size rfl (hS.r32.1 0 (0, 1) rfl) rfl rfl (kX1_size hS (hS.tr 3 rfl) (by decide) hN3 (by omega) (k := 0) rfl es ⟨hs1, hs5⟩ rfl ⟨rfl, ?_⟩)
        refine V_goto (tgt := 58) dX6_ask_43 (by decide) ?_
        refine V_ireturn dX6_ask_58 ⟨_, rfl, vp_nar_int _⟩ ?_
        rw [if_pos c28, if_pos c28] at hq
        exact hq
    · skip
      refine V_ldc dX6_ask_17 wkX6_69 ?_
      refine V_ireturn dX6_ask_19 ⟨_, rfl, vp_nar_int _⟩ ?_
      exact hB (fun h => c14 h.2)
end K6
