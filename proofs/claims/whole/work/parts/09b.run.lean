section K6
variable {d : Nat} {b : Nat × Nat} {Y : xY} {G : xG} {N : xM} {T : xT} {Q : Option xAV → xY → xG → xM → Prop}
theorem kX6_trays (hS : xSt Y G) (hN3 : N 3 = T) {mb pn : Nat} (hc : cSt T mb pn) {z y v : Int32} (hv : ∀ k, z = nI k → k ≤ 60 → 1 ≤ mb → tOK mb pn T → ∀ U, (if y = 0 then tBits (tRunOn mb k (tLike U T)) (nI 8) (nI 8) mb else tBits (tRunOn mb k (tLike U T)) (nI 9) (nI 9) mb) = v) (hQ : ∀ N2, cStay N N2 → Q (some (xI (if nI pn = 0 then -1000002 else if rIn z (nI 0) (nI 60) ∧ rIn y (nI 0) (nI 1) then v else -1000001))) Y G N2) : V RX6 false cX6_trays 3 (some .int) none (d + 5) b 0 [some (xR 0 0), some (xI z), some (xI y)] [] Y G N Q := by
  refine V_ald0 dX6_trays_0 ?_
  refine V_iv0 dX6_trays_1 wlX6_144 mdX6_noRun miX6_noRun rfl (hS.r0.1 0 (0, 6) rfl) rfl rfl (kX6_noRun hS hN3 hc ⟨rfl, ?_⟩)
  refine V_ifeqB (tgt := 10) dX6_trays_4 (by decide) (fun c4 => ?_) (fun c4 => ?_)
  · skip
    refine V_ild1 dX6_trays_10 ?_
    refine V_iconst (v := nI 0) dX6_trays_11 (by decide) ?_
    refine V_bipush (v := nI 60) dX6_trays_12 (by decide) ?_
    refine V_is3 dX6_trays_14 wlX6_217 mdX6_outside msX6_outside rfl rfl (kX6_outside ⟨rfl, ?_⟩)
    refine V_ifneB (tgt := 27) dX6_trays_17 (by decide) (fun c17 => ?_) (fun c17 => ?_)
    · skip
      refine V_ldc dX6_trays_27 wkX6_69 ?_
      refine V_ireturn dX6_trays_29 ⟨_, rfl, vp_nar_int _⟩ ?_
      have hq := hQ N (cStay.rf N)
      rw [if_neg c4, if_neg (fun h => c17 h.1)] at hq
      exact hq
    · replace c17 := Classical.not_not.mp c17
      refine V_ild2 dX6_trays_20 ?_
      refine V_is1 dX6_trays_21 wlX6_171 mdX6_noSide msX6_noSide rfl rfl (kX6_noSide ⟨rfl, ?_⟩)
      refine V_ifeqB (tgt := 30) dX6_trays_24 (by decide) (fun c24 => ?_) (fun c24 => ?_)
      · replace c24 := Classical.not_not.mp c24
        obtain ⟨hm1, hk⟩ := hc.ok0 c4
        have hb := hc.b6
        obtain ⟨k, hk0, hk1, rfl⟩ := rIn_k c17 (by decide) (by decide)
        
        refine V_ald0 dX6_trays_30 ?_
        refine V_getR dX6_trays_31 flX6_43 (hS.r0.1 0 (0, 6) rfl) (hS.r0.2 5 (30, 0) rfl) ?_
        refine V_ald0 dX6_trays_34 ?_
        refine V_getR dX6_trays_35 flX6_26 (hS.r0.1 0 (0, 6) rfl) (hS.r0.2 2 (3, 0) rfl) ?_
        refine V_ild1 dX6_trays_38 ?_
        refine V_in1 31 ?_
        refine V_iv2 dX6_trays_39 wlX6_220 mdX3_behind miX3_behind rfl (hS.r30.1 0 (0, 3) rfl) rfl rfl (kX3_behind hS hN3 hk hk1 ⟨rfl, ?_⟩)
        refine V_ild2 dX6_trays_42 ?_
        refine V_ifne (tgt := 51) dX6_trays_43 (by decide) (fun c43 => ?_) (fun c43 => ?_)
        · skip
          refine V_bipush (v := nI 9) dX6_trays_51 (by decide) ?_
          refine V_iv1 dX6_trays_53 wlX6_157 mdX5_bitsAt miX5_bitsAt rfl ((hS.tr 31 rfl).1 0 (0, 5) rfl) rfl rfl (kX5_bitsAt (hS.tr 31 rfl) ((hk.like (N 31)).runOn k).e2 hk.mb ⟨rfl, ?_⟩)
          refine V_ireturn dX6_trays_56 ⟨_, rfl, vp_nar_int _⟩ ?_
          have hq := hQ _ (cStay.b N (tRunOn mb k (tLike (N 31) T)))
          have hvv := hv k rfl hk1 hm1 hk (N 31)
          rw [if_neg c43] at hvv
          rw [if_neg c4, if_pos ⟨c17, c24⟩, ← hvv] at hq
          exact hq
        · skip
          refine V_bipush (v := nI 8) dX6_trays_46 (by decide) ?_
          refine V_goto (tgt := 53) dX6_trays_48 (by decide) ?_
          refine V_iv1 dX6_trays_53 wlX6_157 mdX5_bitsAt miX5_bitsAt rfl ((hS.tr 31 rfl).1 0 (0, 5) rfl) rfl rfl (kX5_bitsAt (hS.tr 31 rfl) ((hk.like (N 31)).runOn k).e2 hk.mb ⟨rfl, ?_⟩)
          refine V_ireturn dX6_trays_56 ⟨_, rfl, vp_nar_int _⟩ ?_
          have hq := hQ _ (cStay.b N (tRunOn mb k (tLike (N 31) T)))
          have hvv := hv k rfl hk1 hm1 hk (N 31)
          rw [if_pos c43] at hvv
          rw [if_neg c4, if_pos ⟨c17, c24⟩, ← hvv] at hq
          exact hq
      · skip
        refine V_ldc dX6_trays_27 wkX6_69 ?_
        refine V_ireturn dX6_trays_29 ⟨_, rfl, vp_nar_int _⟩ ?_
        have hq := hQ N (cStay.rf N)
        rw [if_neg c4, if_neg (fun h => c24 h.2)] at hq
        exact hq
  · skip
    refine V_ldc dX6_trays_7 wkX6_143 ?_
    refine V_ireturn dX6_trays_9 ⟨_, rfl, vp_nar_int _⟩ ?_
    have hq := hQ N (cStay.rf N)
    rw [if_pos c4] at hq
    exact hq
theorem kX6_when (hS : xSt Y G) (hN3 : N 3 = T) {mb pn : Nat} (hc : cSt T mb pn) {a v : Int32} (hv : ∀ m, a = nI m → m < mb → tOK mb pn T → ∀ U, tTT mb m 61 0 (tLike U T) = v) (hQ : ∀ N2, cStay N N2 → Q (some (xI (if rIn a (nI 0) (nI mb - nI 1) then v else -1000001))) Y G N2) : V RX6 false cX6_when 2 (some .int) none (d + 4) b 0 [some (xR 0 0), some (xI a)] [] Y G N Q := by
  refine V_ald0 dX6_when_0 ?_
  refine V_ild1 dX6_when_1 ?_
  refine V_iv1 dX6_when_2 wlX6_180 mdX6_noMarble miX6_noMarble rfl (hS.r0.1 0 (0, 6) rfl) rfl rfl (kX6_noMarble hS hN3 hc ⟨rfl, ?_⟩)
  refine V_ifeqB (tgt := 13) dX6_when_5 (by decide) (fun c5 => ?_) (fun c5 => ?_)
  · replace c5 := Classical.not_not.mp c5
    obtain ⟨m, hm, rfl⟩ := rIn_m c5 (by have := hc.b6; omega)
    have hk := hc.okm hm
    refine V_ald0 dX6_when_13 ?_
    refine V_getR dX6_when_14 flX6_43 (hS.r0.1 0 (0, 6) rfl) (hS.r0.2 5 (30, 0) rfl) ?_
    refine V_ald0 dX6_when_17 ?_
    refine V_getR dX6_when_18 flX6_26 (hS.r0.1 0 (0, 6) rfl) (hS.r0.2 2 (3, 0) rfl) ?_
    refine V_ild1 dX6_when_21 ?_
    refine V_bipush (v := nI 60) dX6_when_22 (by decide) ?_
    refine V_in1 31 ?_
    refine V_iv3 dX6_when_24 wlX6_224 mdX3_ticksToTray miX3_ticksToTray rfl (hS.r30.1 0 (0, 3) rfl) rfl rfl (kX3_ticksToTray hS hN3 hk hm (fun T2 => ⟨rfl, ?_⟩))
    refine V_ireturn dX6_when_27 ⟨_, rfl, vp_nar_int _⟩ ?_
    have hq := hQ _ (cStay.b N T2)
    rw [if_pos c5, ← hv m rfl hm hk (N 31)] at hq
    exact hq
  · skip
    refine V_ldc dX6_when_8 wkX6_69 ?_
    refine V_goto (tgt := 27) dX6_when_10 (by decide) ?_
    refine V_ireturn dX6_when_27 ⟨_, rfl, vp_nar_int _⟩ ?_
    have hq := hQ N (cStay.rf N)
    rw [if_neg c5] at hq
    exact hq
theorem kX6_rest (hS : xSt Y G) (hN3 : N 3 = T) {mb pn : Nat} (hc : cSt T mb pn) {v : Int32} (hv : 1 ≤ mb → tOK mb pn T → ∀ U, tTR mb 61 0 (tLike U T) = v) (hQ : ∀ N2, cStay N N2 → Q (some (xI (if nI pn = 0 then -1000002 else v))) Y G N2) : V RX6 false cX6_rest 1 (some .int) none (d + 4) b 0 [some (xR 0 0)] [] Y G N Q := by
  refine V_ald0 dX6_rest_0 ?_
  refine V_iv0 dX6_rest_1 wlX6_144 mdX6_noRun miX6_noRun rfl (hS.r0.1 0 (0, 6) rfl) rfl rfl (kX6_noRun hS hN3 hc ⟨rfl, ?_⟩)
  refine V_ifeqB (tgt := 12) dX6_rest_4 (by decide) (fun c4 => ?_) (fun c4 => ?_)
  · skip
    obtain ⟨hm1, hk⟩ := hc.ok0 c4
    have hb := hc.b6
    
    refine V_ald0 dX6_rest_12 ?_
    refine V_getR dX6_rest_13 flX6_43 (hS.r0.1 0 (0, 6) rfl) (hS.r0.2 5 (30, 0) rfl) ?_
    refine V_ald0 dX6_rest_16 ?_
    refine V_getR dX6_rest_17 flX6_26 (hS.r0.1 0 (0, 6) rfl) (hS.r0.2 2 (3, 0) rfl) ?_
    refine V_bipush (v := nI 60) dX6_rest_20 (by decide) ?_
    refine V_in1 31 ?_
    refine V_iv2 dX6_rest_22 wlX6_228 mdX3_ticksToRest miX3_ticksToRest rfl (hS.r30.1 0 (0, 3) rfl) rfl rfl (kX3_ticksToRest hS hN3 hk (fun T2 => ⟨rfl, ?_⟩))
    refine V_ireturn dX6_rest_25 ⟨_, rfl, vp_nar_int _⟩ ?_
    have hq := hQ _ (cStay.b N T2)
    rw [if_neg c4, ← hv hm1 hk (N 31)] at hq
    exact hq
  · skip
    refine V_ldc dX6_rest_7 wkX6_143 ?_
    refine V_goto (tgt := 25) dX6_rest_9 (by decide) ?_
    refine V_ireturn dX6_rest_25 ⟨_, rfl, vp_nar_int _⟩ ?_
    have hq := hQ N (cStay.rf N)
    rw [if_pos c4] at hq
    exact hq
theorem kX6_tips (hS : xSt Y G) (hN3 : N 3 = T) {mb pn : Nat} (hc : cSt T mb pn) {z y w : Int32} {v : Nat → Int32} (hp : 1 ≤ mb → tOK mb pn T → ∃ pt, pt < 256 ∧ tPtd T pn = nI pt ∧ w = (if y = 0 then nI (cTp v pt (pt + 1)).2 else (cTp v pt (pt + 1)).1)) (hv : ∀ n, z = nI n → n ≤ 40 → 1 ≤ mb → tOK mb pn T → ∀ U k, k < 256 → jBC (tBits (tRunOn mb n (tSwAll (tLike U T) (nI k) pn)) (nI 9) (nI 9) mb) = v k) (hQ : ∀ N2, cStay N N2 → Q (some (xI (if nI pn = 0 then -1000002 else if rIn z (nI 1) (nI 40) ∧ rIn y (nI 0) (nI 1) then w else -1000001))) Y G N2) : V RX6 false cX6_tips 3 (some .int) none (d + 5) b 0 [some (xR 0 0), some (xI z), some (xI y)] [] Y G N Q := by
  refine V_ald0 dX6_tips_0 ?_
  refine V_iv0 dX6_tips_1 wlX6_144 mdX6_noRun miX6_noRun rfl (hS.r0.1 0 (0, 6) rfl) rfl rfl (kX6_noRun hS hN3 hc ⟨rfl, ?_⟩)
  refine V_ifeqB (tgt := 10) dX6_tips_4 (by decide) (fun c4 => ?_) (fun c4 => ?_)
  · skip
    refine V_ild1 dX6_tips_10 ?_
    refine V_iconst (v := nI 1) dX6_tips_11 (by decide) ?_
    refine V_bipush (v := nI 40) dX6_tips_12 (by decide) ?_
    refine V_is3 dX6_tips_14 wlX6_217 mdX6_outside msX6_outside rfl rfl (kX6_outside ⟨rfl, ?_⟩)
    refine V_ifneB (tgt := 29) dX6_tips_17 (by decide) (fun c17 => ?_) (fun c17 => ?_)
    · skip
      refine V_ldc dX6_tips_29 wkX6_69 ?_
      refine V_ireturn dX6_tips_31 ⟨_, rfl, vp_nar_int _⟩ ?_
      have hq := hQ N (cStay.rf N)
      rw [if_neg c4, if_neg (fun h => c17 h.1)] at hq
      exact hq
    · replace c17 := Classical.not_not.mp c17
      refine V_ild2 dX6_tips_20 ?_
      refine V_iconst (v := nI 0) dX6_tips_21 (by decide) ?_
      refine V_iconst (v := nI 1) dX6_tips_22 (by decide) ?_
      refine V_is3 dX6_tips_23 wlX6_217 mdX6_outside msX6_outside rfl rfl (kX6_outside ⟨rfl, ?_⟩)
      refine V_ifeqB (tgt := 32) dX6_tips_26 (by decide) (fun c26 => ?_) (fun c26 => ?_)
      · replace c26 := Classical.not_not.mp c26
        obtain ⟨hm1, hk⟩ := hc.ok0 c4
        have hb := hc.b6
        obtain ⟨k, hk0, hk1, rfl⟩ := rIn_k c17 (by decide) (by decide)
        obtain ⟨pt, hpt2, hpt, hw⟩ := hp hm1 hk
        refine V_ald0 dX6_tips_32 ?_
        refine V_getR dX6_tips_33 flX6_43 (hS.r0.1 0 (0, 6) rfl) (hS.r0.2 5 (30, 0) rfl) ?_
        refine V_ald0 dX6_tips_36 ?_
        refine V_getR dX6_tips_37 flX6_26 (hS.r0.1 0 (0, 6) rfl) (hS.r0.2 2 (3, 0) rfl) ?_
        refine V_ild1 dX6_tips_40 ?_
        refine V_in2 ?_
        refine V_iv2 dX6_tips_41 wlX6_232 mdX3_chooseTips miX3_chooseTips rfl (hS.r30.1 0 (0, 3) rfl) rfl rfl (kX3_chooseTips hS hN3 hk (n := k) (by omega) hpt hpt2 (hv k rfl hk1 hm1 hk) (fun T2 E2 g8 g9 => ⟨rfl, ?_⟩))
        refine V_ild2 dX6_tips_44 ?_
        refine V_ifne (tgt := 58) dX6_tips_45 (by decide) (fun c45 => ?_) (fun c45 => ?_)
        · skip
          refine V_ald0 dX6_tips_58 ?_
          refine V_getR dX6_tips_59 flX6_43 (hS.r0.1 0 (0, 6) rfl) (hS.r0.2 5 (30, 0) rfl) ?_
          refine V_iv0 dX6_tips_62 wlX6_239 mdX3_most miX3_most rfl (hS.r30.1 0 (0, 3) rfl) rfl rfl (kX3_most hS ⟨rfl, ?_⟩)
          refine V_ireturn dX6_tips_65 ⟨_, rfl, vp_nar_int _⟩ ?_
          have hq := hQ _ (cStay.a N T2 E2)
          rw [if_neg c4, if_pos ⟨c17, c26⟩, hw, if_neg c45] at hq
          first | rw [g9] | rw [g8]
          exact hq
        · skip
          refine V_ald0 dX6_tips_48 ?_
          refine V_getR dX6_tips_49 flX6_43 (hS.r0.1 0 (0, 6) rfl) (hS.r0.2 5 (30, 0) rfl) ?_
          refine V_iv0 dX6_tips_52 wlX6_236 mdX3_chosen miX3_chosen rfl (hS.r30.1 0 (0, 3) rfl) rfl rfl (kX3_chosen hS ⟨rfl, ?_⟩)
          refine V_goto (tgt := 65) dX6_tips_55 (by decide) ?_
          refine V_ireturn dX6_tips_65 ⟨_, rfl, vp_nar_int _⟩ ?_
          have hq := hQ _ (cStay.a N T2 E2)
          rw [if_neg c4, if_pos ⟨c17, c26⟩, hw, if_pos c45] at hq
          first | rw [g9] | rw [g8]
          exact hq
      · skip
        refine V_ldc dX6_tips_29 wkX6_69 ?_
        refine V_ireturn dX6_tips_31 ⟨_, rfl, vp_nar_int _⟩ ?_
        have hq := hQ N (cStay.rf N)
        rw [if_neg c4, if_neg (fun h => c26 h.2)] at hq
        exact hq
  · skip
    refine V_ldc dX6_tips_7 wkX6_143 ?_
    refine V_ireturn dX6_tips_9 ⟨_, rfl, vp_nar_int _⟩ ?_
    have hq := hQ N (cStay.rf N)
    rw [if_pos c4] at hq
    exact hq
theorem kX6_leads (hS : xSt Y G) (hN3 : N 3 = T) {mb pn : Nat} (hc : cSt T mb pn) {a z y w : Int32} {v : Nat → Int32} (hv : ∀ p n, a = nI p → p < pn → z = nI n → n ≤ 40 → tOK mb pn T → ∀ U q, p < q → q ≤ 9 → jBC (tBits (tRunOn mb n (tRi (tLike U T) p (nI q))) (nI 9) (nI 9) mb) = v q) (hw : ∀ p, a = nI p → p < pn → w = (if y = 0 then nI (cLd v p (9 - p)).2 else (cLd v p (9 - p)).1)) (hQ : ∀ N2, cStay N N2 → Q (some (xI (if rIn a (nI 0) (nI pn - nI 1) ∧ rIn z (nI 1) (nI 40) ∧ rIn y (nI 0) (nI 1) then w else -1000001))) Y G N2) : V RX6 false cX6_leads 4 (some .int) none (d + 5) b 0 [some (xR 0 0), some (xI a), some (xI z), some (xI y)] [] Y G N Q := by
  refine V_ald0 dX6_leads_0 ?_
  refine V_ild1 dX6_leads_1 ?_
  refine V_iv1 dX6_leads_2 wlX6_160 mdX6_noPiece miX6_noPiece rfl (hS.r0.1 0 (0, 6) rfl) rfl rfl (kX6_noPiece hS hN3 hc ⟨rfl, ?_⟩)
  refine V_ifneB (tgt := 27) dX6_leads_5 (by decide) (fun c5 => ?_) (fun c5 => ?_)
  · skip
    refine V_ldc dX6_leads_27 wkX6_69 ?_
    refine V_ireturn dX6_leads_29 ⟨_, rfl, vp_nar_int _⟩ ?_
    have hq := hQ N (cStay.rf N)
    rw [if_neg (fun h => c5 h.1)] at hq
    exact hq
  · replace c5 := Classical.not_not.mp c5
    refine V_ild2 dX6_leads_8 ?_
    refine V_iconst (v := nI 1) dX6_leads_9 (by decide) ?_
    refine V_bipush (v := nI 40) dX6_leads_10 (by decide) ?_
    refine V_is3 dX6_leads_12 wlX6_217 mdX6_outside msX6_outside rfl rfl (kX6_outside ⟨rfl, ?_⟩)
    refine V_ifneB (tgt := 27) dX6_leads_15 (by decide) (fun c15 => ?_) (fun c15 => ?_)
    · skip
      refine V_ldc dX6_leads_27 wkX6_69 ?_
      refine V_ireturn dX6_leads_29 ⟨_, rfl, vp_nar_int _⟩ ?_
      have hq := hQ N (cStay.rf N)
      rw [if_neg (fun h => c15 h.2.1)] at hq
      exact hq
    · replace c15 := Classical.not_not.mp c15
      refine V_ild3 dX6_leads_18 ?_
      refine V_iconst (v := nI 0) dX6_leads_19 (by decide) ?_
      refine V_iconst (v := nI 1) dX6_leads_20 (by decide) ?_
      refine V_is3 dX6_leads_21 wlX6_217 mdX6_outside msX6_outside rfl rfl (kX6_outside ⟨rfl, ?_⟩)
      refine V_ifeqB (tgt := 30) dX6_leads_24 (by decide) (fun c24 => ?_) (fun c24 => ?_)
      · replace c24 := Classical.not_not.mp c24
        obtain ⟨p, hp1, rfl⟩ := rIn_m c5 (by have := hc.b6; omega)
        have hk := hc.okp hp1
        have hb := hc.b6
        obtain ⟨k, hk0, hk1, rfl⟩ := rIn_k c15 (by decide) (by decide)
        
        refine V_ald0 dX6_leads_30 ?_
        refine V_getR dX6_leads_31 flX6_43 (hS.r0.1 0 (0, 6) rfl) (hS.r0.2 5 (30, 0) rfl) ?_
        refine V_ald0 dX6_leads_34 ?_
        refine V_getR dX6_leads_35 flX6_26 (hS.r0.1 0 (0, 6) rfl) (hS.r0.2 2 (3, 0) rfl) ?_
        refine V_ild1 dX6_leads_38 ?_
        refine V_ild2 dX6_leads_39 ?_
        refine V_in2 ?_
        refine V_iv3 dX6_leads_40 wlX6_252 mdX3_chooseLead miX3_chooseLead rfl (hS.r30.1 0 (0, 3) rfl) rfl rfl (kX3_chooseLead hS hN3 hk (p := p) (n := k) hp1 (by omega) (hv p k rfl hp1 rfl hk1 hk) (fun T2 E2 g8 g9 => ⟨rfl, ?_⟩))
        refine V_ild3 dX6_leads_43 ?_
        refine V_ifne (tgt := 57) dX6_leads_44 (by decide) (fun c44 => ?_) (fun c44 => ?_)
        · skip
          refine V_ald0 dX6_leads_57 ?_
          refine V_getR dX6_leads_58 flX6_43 (hS.r0.1 0 (0, 6) rfl) (hS.r0.2 5 (30, 0) rfl) ?_
          refine V_iv0 dX6_leads_61 wlX6_239 mdX3_most miX3_most rfl (hS.r30.1 0 (0, 3) rfl) rfl rfl (kX3_most hS ⟨rfl, ?_⟩)
          refine V_ireturn dX6_leads_64 ⟨_, rfl, vp_nar_int _⟩ ?_
          have hq := hQ _ (cStay.a N T2 E2)
          rw [if_pos ⟨c5, c15, c24⟩, hw p rfl hp1, if_neg c44] at hq
          first | rw [g9] | rw [g8]
          exact hq
        · skip
          refine V_ald0 dX6_leads_47 ?_
          refine V_getR dX6_leads_48 flX6_43 (hS.r0.1 0 (0, 6) rfl) (hS.r0.2 5 (30, 0) rfl) ?_
          refine V_iv0 dX6_leads_51 wlX6_236 mdX3_chosen miX3_chosen rfl (hS.r30.1 0 (0, 3) rfl) rfl rfl (kX3_chosen hS ⟨rfl, ?_⟩)
          refine V_goto (tgt := 64) dX6_leads_54 (by decide) ?_
          refine V_ireturn dX6_leads_64 ⟨_, rfl, vp_nar_int _⟩ ?_
          have hq := hQ _ (cStay.a N T2 E2)
          rw [if_pos ⟨c5, c15, c24⟩, hw p rfl hp1, if_pos c44] at hq
          first | rw [g9] | rw [g8]
          exact hq
      · skip
        refine V_ldc dX6_leads_27 wkX6_69 ?_
        refine V_ireturn dX6_leads_29 ⟨_, rfl, vp_nar_int _⟩ ?_
        have hq := hQ N (cStay.rf N)
        rw [if_neg (fun h => c24 h.2.2)] at hq
        exact hq
theorem kX6_byTurns (hS : xSt Y G) (hN3 : N 3 = T) {mb pn : Nat} (hc : cSt T mb pn) {z y v : Int32} {W : Nat → Int32} (hp : 1 ≤ mb → tOK mb pn T → ∃ pt, pt < 256 ∧ tPtd T pn = nI pt) (hW1 : ∀ m, y = nI m → m ≤ 20 → 1 ≤ mb → tOK mb pn T → ∀ pt, tPtd T pn = nI pt → ∀ U k, k < 256 → k &&& pt = k → jBC (tBits (tRunOn mb m (tSwAll (tLike U T) (nI k) pn)) (nI 9) (nI 9) mb) - jBC (tBits (tRunOn mb m (tSwAll (tLike U T) (nI k) pn)) (nI 8) (nI 8) mb) = W k) (hW2 : ∀ pt, tPtd T pn = nI pt → ∀ k, k < 256 → W (k &&& pt) = W k) (hv2 : ∀ n, z = nI n → n ≤ 4 → tU pn W n n 0 = v) (hQ : ∀ N2, cStay N N2 → Q (some (xI (if nI pn = 0 then -1000002 else if rIn z (nI 0) (nI 4) ∧ rIn y (nI 1) (nI 20) then v else -1000001))) Y G N2) : V RX6 false cX6_byTurns 3 (some .int) none (d + 6) b 0 [some (xR 0 0), some (xI z), some (xI y)] [] Y G N Q := by
  refine V_ald0 dX6_byTurns_0 ?_
  refine V_iv0 dX6_byTurns_1 wlX6_144 mdX6_noRun miX6_noRun rfl (hS.r0.1 0 (0, 6) rfl) rfl rfl (kX6_noRun hS hN3 hc ⟨rfl, ?_⟩)
  refine V_ifeqB (tgt := 10) dX6_byTurns_4 (by decide) (fun c4 => ?_) (fun c4 => ?_)
  · skip
    refine V_ild1 dX6_byTurns_10 ?_
    refine V_iconst (v := nI 0) dX6_byTurns_11 (by decide) ?_
    refine V_iconst (v := nI 4) dX6_byTurns_12 (by decide) ?_
    refine V_is3 dX6_byTurns_13 wlX6_217 mdX6_outside msX6_outside rfl rfl (kX6_outside ⟨rfl, ?_⟩)
    refine V_ifneB (tgt := 29) dX6_byTurns_16 (by decide) (fun c16 => ?_) (fun c16 => ?_)
    · skip
      refine V_ldc dX6_byTurns_29 wkX6_69 ?_
      refine V_ireturn dX6_byTurns_31 ⟨_, rfl, vp_nar_int _⟩ ?_
      have hq := hQ N (cStay.rf N)
      rw [if_neg c4, if_neg (fun h => c16 h.1)] at hq
      exact hq
    · replace c16 := Classical.not_not.mp c16
      refine V_ild2 dX6_byTurns_19 ?_
      refine V_iconst (v := nI 1) dX6_byTurns_20 (by decide) ?_
      refine V_bipush (v := nI 20) dX6_byTurns_21 (by decide) ?_
      refine V_is3 dX6_byTurns_23 wlX6_217 mdX6_outside msX6_outside rfl rfl (kX6_outside ⟨rfl, ?_⟩)
      refine V_ifeqB (tgt := 32) dX6_byTurns_26 (by decide) (fun c26 => ?_) (fun c26 => ?_)
      · replace c26 := Classical.not_not.mp c26
        obtain ⟨hm1, hk⟩ := hc.ok0 c4
        have hb := hc.b6
        obtain ⟨n, hn0, hn1, rfl⟩ := rIn_k c16 (by decide) (by decide)
        obtain ⟨k, hk0, hk1, rfl⟩ := rIn_k c26 (by decide) (by decide)
        obtain ⟨pt, hpt2, hpt⟩ := hp hm1 hk
        refine V_ald0 dX6_byTurns_32 ?_
        refine V_getR dX6_byTurns_33 flX6_43 (hS.r0.1 0 (0, 6) rfl) (hS.r0.2 5 (30, 0) rfl) ?_
        refine V_ald0 dX6_byTurns_36 ?_
        refine V_getR dX6_byTurns_37 flX6_26 (hS.r0.1 0 (0, 6) rfl) (hS.r0.2 2 (3, 0) rfl) ?_
        refine V_ild1 dX6_byTurns_40 ?_
        refine V_ild2 dX6_byTurns_41 ?_
        refine V_in2 ?_
        refine V_iv3 dX6_byTurns_42 wlX6_263 mdX3_playTurns miX3_playTurns rfl (hS.r30.1 0 (0, 3) rfl) rfl rfl (kX3_playTurns hS hN3 hk (n := n) (m := k) hn1 (by omega) rfl hpt hpt2 (hW1 k rfl hk1 hm1 hk pt hpt) (hW2 pt hpt) (fun T2 E2 => ⟨rfl, ?_⟩))
        refine V_ireturn dX6_byTurns_45 ⟨_, rfl, vp_nar_int _⟩ ?_
        have hq := hQ _ (cStay.a N T2 E2)
        rw [if_neg c4, if_pos ⟨c16, c26⟩, ← hv2 n rfl hn1] at hq
        exact hq
      · skip
        refine V_ldc dX6_byTurns_29 wkX6_69 ?_
        refine V_ireturn dX6_byTurns_31 ⟨_, rfl, vp_nar_int _⟩ ?_
        have hq := hQ N (cStay.rf N)
        rw [if_neg c4, if_neg (fun h => c26 h.2)] at hq
        exact hq
  · skip
    refine V_ldc dX6_byTurns_7 wkX6_143 ?_
    refine V_ireturn dX6_byTurns_9 ⟨_, rfl, vp_nar_int _⟩ ?_
    have hq := hQ N (cStay.rf N)
    rw [if_pos c4] at hq
    exact hq
theorem kX6_drawn (hS : xSt Y G) (hN3 : N 3 = T) {mb pn : Nat} (hc : cSt T mb pn) {z x y v : Int32} (hv : ∀ n sd, z = nI n → n ≤ 60 → x = nI sd → sd ≤ 999999 → 1 ≤ mb → tOK mb pn T → ∀ U, tDraw mb pn (if y = 0 then nI 9 else nI 8) n sd (tLike U T) (nI 0) = v) (hQ : ∀ N2, cStay N N2 → Q (some (xI (if nI pn = 0 then -1000002 else if rIn z (nI 0) (nI 60) ∧ rIn x (nI 1) (nI 999999) ∧ rIn y (nI 0) (nI 1) then v else -1000001))) Y G N2) : V RX6 false cX6_drawn 4 (some .int) none (d + 4) b 0 [some (xR 0 0), some (xI z), some (xI x), some (xI y)] [] Y G N Q := by
  refine V_ald0 dX6_drawn_0 ?_
  refine V_iv0 dX6_drawn_1 wlX6_144 mdX6_noRun miX6_noRun rfl (hS.r0.1 0 (0, 6) rfl) rfl rfl (kX6_noRun hS hN3 hc ⟨rfl, ?_⟩)
  refine V_ifeqB (tgt := 10) dX6_drawn_4 (by decide) (fun c4 => ?_) (fun c4 => ?_)
  · skip
    refine V_ild1 dX6_drawn_10 ?_
    refine V_iconst (v := nI 0) dX6_drawn_11 (by decide) ?_
    refine V_bipush (v := nI 60) dX6_drawn_12 (by decide) ?_
    refine V_is3 dX6_drawn_14 wlX6_217 mdX6_outside msX6_outside rfl rfl (kX6_outside ⟨rfl, ?_⟩)
    refine V_ifneB (tgt := 40) dX6_drawn_17 (by decide) (fun c17 => ?_) (fun c17 => ?_)
    · skip
      refine V_ldc dX6_drawn_40 wkX6_69 ?_
      refine V_ireturn dX6_drawn_42 ⟨_, rfl, vp_nar_int _⟩ ?_
      have hq := hQ N (cStay.rf N)
      rw [if_neg c4, if_neg (fun h => c17 h.1)] at hq
      exact hq
    · replace c17 := Classical.not_not.mp c17
      refine V_ild2 dX6_drawn_20 ?_
      refine V_iconst (v := nI 1) dX6_drawn_21 (by decide) ?_
      refine V_ldc_w dX6_drawn_22 wkX6_303 ?_
      rw [show (999999 : Int32) = nI 999999 by decide]
      refine V_is3 dX6_drawn_25 wlX6_217 mdX6_outside msX6_outside rfl rfl (kX6_outside ⟨rfl, ?_⟩)
      refine V_ifneB (tgt := 40) dX6_drawn_28 (by decide) (fun c28 => ?_) (fun c28 => ?_)
      · skip
        refine V_ldc dX6_drawn_40 wkX6_69 ?_
        refine V_ireturn dX6_drawn_42 ⟨_, rfl, vp_nar_int _⟩ ?_
        have hq := hQ N (cStay.rf N)
        rw [if_neg c4, if_neg (fun h => c28 h.2.1)] at hq
        exact hq
      · replace c28 := Classical.not_not.mp c28
        refine V_ild3 dX6_drawn_31 ?_
        refine V_iconst (v := nI 0) dX6_drawn_32 (by decide) ?_
        refine V_iconst (v := nI 1) dX6_drawn_33 (by decide) ?_
        refine V_is3 dX6_drawn_34 wlX6_217 mdX6_outside msX6_outside rfl rfl (kX6_outside ⟨rfl, ?_⟩)
        refine V_ifeqB (tgt := 43) dX6_drawn_37 (by decide) (fun c37 => ?_) (fun c37 => ?_)
        · replace c37 := Classical.not_not.mp c37
          obtain ⟨hm1, hk⟩ := hc.ok0 c4
          have hb := hc.b6
          obtain ⟨k, hk0, hk1, rfl⟩ := rIn_k c17 (by decide) (by decide)
          obtain ⟨sd, hs0, hs1, rfl⟩ := rIn_k c28 (by decide) (by decide)
          refine V_ald0 dX6_drawn_43 ?_
          refine V_getR dX6_drawn_44 flX6_43 (hS.r0.1 0 (0, 6) rfl) (hS.r0.2 5 (30, 0) rfl) ?_
          refine V_ald0 dX6_drawn_47 ?_
          refine V_getR dX6_drawn_48 flX6_26 (hS.r0.1 0 (0, 6) rfl) (hS.r0.2 2 (3, 0) rfl) ?_
          refine V_ild1 dX6_drawn_51 ?_
          refine V_ild2 dX6_drawn_52 ?_
          refine V_ild3 dX6_drawn_53 ?_
          refine V_ifne (tgt := 62) dX6_drawn_54 (by decide) (fun c54 => ?_) (fun c54 => ?_)
          · skip
            refine V_bipush (v := nI 8) dX6_drawn_62 (by decide) ?_
            refine V_in1 31 ?_
            refine V_iv4 dX6_drawn_64 wlX6_304 mdX3_cameByDraws miX3_cameByDraws rfl (hS.r30.1 0 (0, 3) rfl) rfl rfl (kX3_cameByDraws hS hN3 hk hm1 (n := k) (seed := sd) hk1 (by omega) (fun T2 => ⟨rfl, ?_⟩))
            refine V_ireturn dX6_drawn_67 ⟨_, rfl, vp_nar_int _⟩ ?_
            have hq := hQ _ (cStay.b N T2)
            have hvv := hv k sd rfl hk1 rfl hs1 hm1 hk (N 31)
            rw [if_neg c54] at hvv
            rw [if_neg c4, if_pos ⟨c17, c28, c37⟩, ← hvv] at hq
            exact hq
          · skip
            refine V_bipush (v := nI 9) dX6_drawn_57 (by decide) ?_
            refine V_goto (tgt := 64) dX6_drawn_59 (by decide) ?_
            refine V_in1 31 ?_
            refine V_iv4 dX6_drawn_64 wlX6_304 mdX3_cameByDraws miX3_cameByDraws rfl (hS.r30.1 0 (0, 3) rfl) rfl rfl (kX3_cameByDraws hS hN3 hk hm1 (n := k) (seed := sd) hk1 (by omega) (fun T2 => ⟨rfl, ?_⟩))
            refine V_ireturn dX6_drawn_67 ⟨_, rfl, vp_nar_int _⟩ ?_
            have hq := hQ _ (cStay.b N T2)
            have hvv := hv k sd rfl hk1 rfl hs1 hm1 hk (N 31)
            rw [if_pos c54] at hvv
            rw [if_neg c4, if_pos ⟨c17, c28, c37⟩, ← hvv] at hq
            exact hq
        · skip
          refine V_ldc dX6_drawn_40 wkX6_69 ?_
          refine V_ireturn dX6_drawn_42 ⟨_, rfl, vp_nar_int _⟩ ?_
          have hq := hQ N (cStay.rf N)
          rw [if_neg c4, if_neg (fun h => c37 h.2.2)] at hq
          exact hq
  · skip
    refine V_ldc dX6_drawn_7 wkX6_143 ?_
    refine V_ireturn dX6_drawn_9 ⟨_, rfl, vp_nar_int _⟩ ?_
    have hq := hQ N (cStay.rf N)
    rw [if_pos c4] at hq
    exact hq
end K6
