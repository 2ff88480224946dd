section K6
variable {d : Nat} {b : Nat × Nat} {Y : xY} {G : xG} {N : xM} {T : xT} {Q : Option xAV → xY → xG → xM → Prop}
theorem V_in31 {own : String} {ini : Bool} {cc : ByteArray} {nL : Nat} {ret : Option FieldType} {X : Option (Nat × (Nat → Int32))} {pc : Nat} {loc : List (Option xAV)} {st : List xAV} {E : xT} (k : V own ini cc nL ret X d b pc loc st Y G (va_up (va_up N 31 (N 31)) 30 E) Q) : V own ini cc nL ret X d b pc loc st Y G (va_up N 30 E) Q := by rw [va_up_id] at k; exact k
theorem kX6_who (hS : xSt Y G) (hN3 : N 3 = T) {mb pn : Nat} (hc : cSt T mb pn) (hsz : szOK (N 1 3)) {a y w x z v : Int32} {pv : Nat → Bool} (hv0 : ∀ p r j n, a = nI p → p < pn → w = nI r → r < 8 → x = nI j → j + n ≤ 40 → z = nI n → tOK mb pn T → y = 0 → ∀ U k, 1 ≤ k → k ≤ 5 → cFit mb (N 1 (10 + r)) n j (tPut (tLike U T) 9 p (nI k)) = pv k) (hv1 : ∀ p r j n, a = nI p → p < pn → w = nI r → r < 8 → x = nI j → j + n ≤ 40 → z = nI n → tOK mb pn T → ¬ y = 0 → ∀ U k, 0 ≤ k → k ≤ 1 → cFit mb (N 1 (10 + r)) n j (tPut (tLike U T) 10 p (nI k)) = pv k) (hw : (y = 0 → v = fitS pv 1 5) ∧ (¬ y = 0 → v = fitS pv 0 2)) (hQ : ∀ G2 N2, xSt Y G2 → (∀ q, q ≠ 0 → q ≠ 30 → q ≠ 31 → N2 q = N q) → N2 0 = (if rIn a (nI 0) (nI pn - nI 1) ∧ rIn y (nI 0) (nI 1) ∧ rIn w (nI 0) (nI 7) ∧ rIn z (nI 1) (nI 12) then va_up (N 0) 0 (upd (N 0 0) 9 (cFnd (N 1) w x z)) else N 0) → Q (some (xI (if rIn a (nI 0) (nI pn - nI 1) ∧ rIn y (nI 0) (nI 1) ∧ rIn w (nI 0) (nI 7) ∧ rIn z (nI 1) (nI 12) then (if cFnd (N 1) w x z = 0 then v else -1000010 - cFnd (N 1) w x z) else -1000001))) Y G2 N2) : V RX6 false cX6_who 7 (some .int) none (d + 6) b 0 [some (xR 0 0), some (xI a), some (xI y), some (xI w), some (xI x), some (xI z), none] [] Y G N Q := by
  refine V_ald0 dX6_who_0 ?_
  refine V_ild1 dX6_who_1 ?_
  refine V_iv1 dX6_who_2 wlX6_160 mdX6_noPiece miX6_noPiece rfl (hS.r0.1 0 (0, 6) rfl) rfl rfl (kX6_noPiece hS hN3 hc ⟨rfl, ?_⟩)
  refine V_ifneB (tgt := 35) dX6_who_5 (by decide) (fun c5 => ?_) (fun c5 => ?_)
  · skip
    refine V_ldc dX6_who_35 wkX6_69 ?_
    refine V_ireturn dX6_who_37 ⟨_, rfl, vp_nar_int _⟩ ?_
    have hq := hQ G N hS (fun _ _ _ _ => rfl) (by rw [if_neg (fun h => c5 h.1)])
    rw [if_neg (fun h => c5 h.1)] at hq
    exact hq
  · replace c5 := Classical.not_not.mp c5
    refine V_ild2 dX6_who_8 ?_
    refine V_iconst (v := nI 0) dX6_who_9 (by decide) ?_
    refine V_iconst (v := nI 1) dX6_who_10 (by decide) ?_
    refine V_is3 dX6_who_11 wlX6_217 mdX6_outside msX6_outside rfl rfl (kX6_outside ⟨rfl, ?_⟩)
    refine V_ifneB (tgt := 35) dX6_who_14 (by decide) (fun c14 => ?_) (fun c14 => ?_)
    · skip
      refine V_ldc dX6_who_35 wkX6_69 ?_
      refine V_ireturn dX6_who_37 ⟨_, rfl, vp_nar_int _⟩ ?_
      have hq := hQ G N hS (fun _ _ _ _ => rfl) (by rw [if_neg (fun h => c14 h.2.1)])
      rw [if_neg (fun h => c14 h.2.1)] at hq
      exact hq
    · replace c14 := Classical.not_not.mp c14
      refine V_ild3 dX6_who_17 ?_
      refine V_is1 dX6_who_18 wlX6_65 mdX6_noRow msX6_noRow rfl rfl (kX6_noRow ⟨rfl, ?_⟩)
      refine V_ifneB (tgt := 35) dX6_who_21 (by decide) (fun c21 => ?_) (fun c21 => ?_)
      · skip
        refine V_ldc dX6_who_35 wkX6_69 ?_
        refine V_ireturn dX6_who_37 ⟨_, rfl, vp_nar_int _⟩ ?_
        have hq := hQ G N hS (fun _ _ _ _ => rfl) (by rw [if_neg (fun h => c21 h.2.2.1)])
        rw [if_neg (fun h => c21 h.2.2.1)] at hq
        exact hq
      · replace c21 := Classical.not_not.mp c21
        refine V_ild5 dX6_who_24 ?_
        refine V_iconst (v := nI 1) dX6_who_26 (by decide) ?_
        refine V_bipush (v := nI 12) dX6_who_27 (by decide) ?_
        refine V_is3 dX6_who_29 wlX6_217 mdX6_outside msX6_outside rfl rfl (kX6_outside ⟨rfl, ?_⟩)
        refine V_ifeqB (tgt := 38) dX6_who_32 (by decide) (fun c32 => ?_) (fun c32 => ?_)
        · replace c32 := Classical.not_not.mp c32
          have hPP : rIn a (nI 0) (nI pn - nI 1) ∧ rIn y (nI 0) (nI 1) ∧ rIn w (nI 0) (nI 7) ∧ rIn z (nI 1) (nI 12) := ⟨c5, c14, c21, c32⟩
          simp only [if_pos hPP] at hQ
          obtain ⟨p, hp, rfl⟩ := rIn_m c5 (by have := hc.b6; omega)
          obtain ⟨r, hr0, hr7, rfl⟩ := rIn_k c21 (by decide) (by decide)
          obtain ⟨n, hn0, hn1, rfl⟩ := rIn_k c32 (by decide) (by decide)
          have hk := hc.okp hp
          have hb := hc.b6
          refine V_ald0 dX6_who_38 ?_
          refine V_ild3 dX6_who_39 ?_
          refine V_ild4 dX6_who_40 ?_
          refine V_ild5 dX6_who_42 ?_
          refine V_iv3 dX6_who_44 wlX6_81 mdX6_findingAt miX6_findingAt rfl (hS.r0.1 0 (0, 6) rfl) rfl rfl (kX6_findingAt hS (by omega) ⟨rfl, ?_⟩)
          refine V_ist6 dX6_who_47 rfl ?_
          refine V_ild6 dX6_who_49 ?_
          refine V_ifeq (tgt := 61) dX6_who_51 (by decide) (fun c51 => ?_) (fun c51 => ?_)
          · skip
            have hfd := c51
            unfold cFnd at hfd
            rw [nI_clamp (by omega)] at hfd
            obtain ⟨jj, rfl, hjn⟩ : ∃ j, x = nI j ∧ j + n ≤ 40 := by
              by_cases q1 : N 1 3 r = -1
              · rw [if_pos q1] at hfd; exact absurd hfd (by decide)
              · rw [if_neg q1] at hfd
                by_cases q2 : cHas (N 1) r x (nI n)
                · exact has_nat hsz (by omega) (by omega) q1 q2
                · rw [if_neg q2] at hfd; exact absurd hfd (by decide)
            refine V_ald0 dX6_who_61 ?_
            refine V_getR dX6_who_62 flX6_43 (hS.r0.1 0 (0, 6) rfl) (hS.r0.2 5 (30, 0) rfl) ?_
            refine V_ald0 dX6_who_65 ?_
            refine V_getR dX6_who_66 flX6_10 (hS.r0.1 0 (0, 6) rfl) (hS.r0.2 0 (1, 0) rfl) ?_
            refine V_ild3 dX6_who_69 ?_
            refine V_in1 1 ?_
            refine V_iv1 dX6_who_70 wlX6_266 mdX2_itemsOf miX2_itemsOf rfl (hS.r1.1 0 (0, 2) rfl) rfl rfl (kX2_itemsOf hS (by omega) ⟨rfl, ?_⟩)
            rw [va_up_id]
            refine V_ild4 dX6_who_73 ?_
            refine V_ild5 dX6_who_75 ?_
            refine V_in1 30 ?_
            refine V_iv3 dX6_who_77 wlX6_270 mdX3_watch miX3_watch rfl (hS.r30.1 0 (0, 3) rfl) rfl rfl (kX3_watch hS (w := r) (by omega) (fun E2 e6 e7 ec => ⟨rfl, ?_⟩))
            have hS2 := hS.seen (g := some (1, 10 + r))
            have hN32 : N 3 = T := hN3
            refine V_in31 ?_
            refine V_ald0 dX6_who_80 ?_
            refine V_ild2 dX6_who_81 ?_
            refine V_ifne (tgt := 100) dX6_who_82 (by decide) (fun cw => ?_) (fun cw => ?_)
            · skip
              refine V_ald0 dX6_who_100 ?_
              refine V_getR dX6_who_101 flX6_43 (hS.r0.1 0 (0, 6) rfl) (hS.r0.2 5 (30, 0) rfl) ?_
              refine V_ald0 dX6_who_104 ?_
              refine V_getR dX6_who_105 flX6_26 (hS.r0.1 0 (0, 6) rfl) (hS.r0.2 2 (3, 0) rfl) ?_
              refine V_ild1 dX6_who_108 ?_
              refine V_iv2 dX6_who_109 wlX6_277 mdX3_pointsThatFit miX3_pointsThatFit rfl (hS.r30.1 0 (0, 3) rfl) rfl rfl (kX3_pointsThatFit hS2 hN32 hk (fr := jj) (tk := n) (w := r) (by omega) rfl e6 e7 hjn (p := p) hp (pv := pv) (fun U k h1 h2 => hv1 p r jj n rfl hp rfl (by omega) rfl hjn rfl hk cw U k h1 (by omega)) (fun T3 => ⟨rfl, ?_⟩))
              refine V_iv1 dX6_who_112 wlX6_78 mdX6_foundNone miX6_foundNone rfl (hS.r0.1 0 (0, 6) rfl) rfl rfl (kX6_foundNone hS2 ⟨rfl, ?_⟩)
              refine V_ireturn dX6_who_115 ⟨_, rfl, vp_nar_int _⟩ ?_
              have hq := hQ (xg G 30 0 (va_up (G 30 0) 6 (some (1, 10 + r)))) (cFd (va_up (va_up N 31 T3) 30 E2) 0) hS2 (fun q h0 h1 h2 => by unfold cFd; rw [va_up_no _ _ h0, va_up_no _ _ h1, va_up_no _ _ h2]) (by rw [c51]; exact va_up_eq _ _ _)
              rw [if_pos c51, hw.2 cw] at hq
              exact hq
            · skip
              refine V_ald0 dX6_who_85 ?_
              refine V_getR dX6_who_86 flX6_43 (hS.r0.1 0 (0, 6) rfl) (hS.r0.2 5 (30, 0) rfl) ?_
              refine V_ald0 dX6_who_89 ?_
              refine V_getR dX6_who_90 flX6_26 (hS.r0.1 0 (0, 6) rfl) (hS.r0.2 2 (3, 0) rfl) ?_
              refine V_ild1 dX6_who_93 ?_
              refine V_iv2 dX6_who_94 wlX6_274 mdX3_kindsThatFit miX3_kindsThatFit rfl (hS.r30.1 0 (0, 3) rfl) rfl rfl (kX3_kindsThatFit hS2 hN32 hk (fr := jj) (tk := n) (w := r) (by omega) rfl e6 e7 hjn (p := p) hp (pv := pv) (fun U k h1 h2 => hv0 p r jj n rfl hp rfl (by omega) rfl hjn rfl hk cw U k h1 (by omega)) (fun T3 => ⟨rfl, ?_⟩))
              refine V_goto (tgt := 112) dX6_who_97 (by decide) ?_
              refine V_iv1 dX6_who_112 wlX6_78 mdX6_foundNone miX6_foundNone rfl (hS.r0.1 0 (0, 6) rfl) rfl rfl (kX6_foundNone hS2 ⟨rfl, ?_⟩)
              refine V_ireturn dX6_who_115 ⟨_, rfl, vp_nar_int _⟩ ?_
              have hq := hQ (xg G 30 0 (va_up (G 30 0) 6 (some (1, 10 + r)))) (cFd (va_up (va_up N 31 T3) 30 E2) 0) hS2 (fun q h0 h1 h2 => by unfold cFd; rw [va_up_no _ _ h0, va_up_no _ _ h1, va_up_no _ _ h2]) (by rw [c51]; exact va_up_eq _ _ _)
              rw [if_pos c51, hw.1 cw] at hq
              exact hq
          · skip
            refine V_ald0 dX6_who_54 ?_
            refine V_ild6 dX6_who_55 ?_
            refine V_iv1 dX6_who_57 wlX6_70 mdX6_found miX6_found rfl (hS.r0.1 0 (0, 6) rfl) rfl rfl (kX6_found hS ⟨rfl, ?_⟩)
            refine V_ireturn dX6_who_60 ⟨_, rfl, vp_nar_int _⟩ ?_
            have hq := hQ G (cFd N (cFnd (N 1) (nI r) x (nI n))) hS (fun q h0 h1 h2 => va_up_no _ _ h0) (va_up_eq _ _ _)
            rw [if_neg c51] at hq
            exact hq
        · skip
          refine V_ldc dX6_who_35 wkX6_69 ?_
          refine V_ireturn dX6_who_37 ⟨_, rfl, vp_nar_int _⟩ ?_
          have hq := hQ G N hS (fun _ _ _ _ => rfl) (by rw [if_neg (fun h => c32 h.2.2.2)])
          rw [if_neg (fun h => c32 h.2.2.2)] at hq
          exact hq
theorem kX6_weights (hS : xSt Y G) (hN3 : N 3 = T) {mb pn : Nat} (hc : cSt T mb pn) (hsz : szOK (N 1 3)) {a y w x z v : Int32} {pv : Nat → Bool} (hv0 : ∀ p r j n, a = nI p → p < mb → w = nI r → r < 8 → x = nI j → j + n ≤ 40 → z = nI n → tOK mb pn T → y = 0 → ∀ U k, 1 ≤ k → k < 10 → cFit mb (N 1 (10 + r)) n j (tPut (tLike U T) 6 p (nI k)) = pv k) (hv1 : ∀ p r j n, a = nI p → p < mb → w = nI r → r < 8 → x = nI j → j + n ≤ 40 → z = nI n → tOK mb pn T → ¬ y = 0 → ∀ U k, 1 ≤ k → k < 10 → cFit mb (N 1 (10 + r)) n j (tPut (tLike U T) 0 0 (nI k)) = pv k) (hw : (y = 0 → v = fitS pv 1 9) ∧ (¬ y = 0 → v = fitS pv 1 9)) (hQ : ∀ G2 N2, xSt Y G2 → (∀ q, q ≠ 0 → q ≠ 30 → q ≠ 31 → N2 q = N q) → N2 0 = (if rIn a (nI 0) (nI mb - nI 1) ∧ rIn y (nI 0) (nI 1) ∧ rIn w (nI 0) (nI 7) ∧ rIn z (nI 1) (nI 12) then va_up (N 0) 0 (upd (N 0 0) 9 (cFnd (N 1) w x z)) else N 0) → Q (some (xI (if rIn a (nI 0) (nI mb - nI 1) ∧ rIn y (nI 0) (nI 1) ∧ rIn w (nI 0) (nI 7) ∧ rIn z (nI 1) (nI 12) then (if cFnd (N 1) w x z = 0 then v else -1000010 - cFnd (N 1) w x z) else -1000001))) Y G2 N2) : V RX6 false cX6_weights 7 (some .int) none (d + 6) b 0 [some (xR 0 0), some (xI a), some (xI y), some (xI w), some (xI x), some (xI z), none] [] Y G N Q := by
  refine V_ald0 dX6_weights_0 ?_
  refine V_ild1 dX6_weights_1 ?_
  refine V_iv1 dX6_weights_2 wlX6_180 mdX6_noMarble miX6_noMarble rfl (hS.r0.1 0 (0, 6) rfl) rfl rfl (kX6_noMarble hS hN3 hc ⟨rfl, ?_⟩)
  refine V_ifneB (tgt := 35) dX6_weights_5 (by decide) (fun c5 => ?_) (fun c5 => ?_)
  · skip
    refine V_ldc dX6_weights_35 wkX6_69 ?_
    refine V_ireturn dX6_weights_37 ⟨_, rfl, vp_nar_int _⟩ ?_
    have hq := hQ G N hS (fun _ _ _ _ => rfl) (by rw [if_neg (fun h => c5 h.1)])
    rw [if_neg (fun h => c5 h.1)] at hq
    exact hq
  · replace c5 := Classical.not_not.mp c5
    refine V_ild2 dX6_weights_8 ?_
    refine V_iconst (v := nI 0) dX6_weights_9 (by decide) ?_
    refine V_iconst (v := nI 1) dX6_weights_10 (by decide) ?_
    refine V_is3 dX6_weights_11 wlX6_217 mdX6_outside msX6_outside rfl rfl (kX6_outside ⟨rfl, ?_⟩)
    refine V_ifneB (tgt := 35) dX6_weights_14 (by decide) (fun c14 => ?_) (fun c14 => ?_)
    · skip
      refine V_ldc dX6_weights_35 wkX6_69 ?_
      refine V_ireturn dX6_weights_37 ⟨_, rfl, vp_nar_int _⟩ ?_
      have hq := hQ G N hS (fun _ _ _ _ => rfl) (by rw [if_neg (fun h => c14 h.2.1)])
      rw [if_neg (fun h => c14 h.2.1)] at hq
      exact hq
    · replace c14 := Classical.not_not.mp c14
      refine V_ild3 dX6_weights_17 ?_
      refine V_is1 dX6_weights_18 wlX6_65 mdX6_noRow msX6_noRow rfl rfl (kX6_noRow ⟨rfl, ?_⟩)
      refine V_ifneB (tgt := 35) dX6_weights_21 (by decide) (fun c21 => ?_) (fun c21 => ?_)
      · skip
        refine V_ldc dX6_weights_35 wkX6_69 ?_
        refine V_ireturn dX6_weights_37 ⟨_, rfl, vp_nar_int _⟩ ?_
        have hq := hQ G N hS (fun _ _ _ _ => rfl) (by rw [if_neg (fun h => c21 h.2.2.1)])
        rw [if_neg (fun h => c21 h.2.2.1)] at hq
        exact hq
      · replace c21 := Classical.not_not.mp c21
        refine V_ild5 dX6_weights_24 ?_
        refine V_iconst (v := nI 1) dX6_weights_26 (by decide) ?_
        refine V_bipush (v := nI 12) dX6_weights_27 (by decide) ?_
        refine V_is3 dX6_weights_29 wlX6_217 mdX6_outside msX6_outside rfl rfl (kX6_outside ⟨rfl, ?_⟩)
        refine V_ifeqB (tgt := 38) dX6_weights_32 (by decide) (fun c32 => ?_) (fun c32 => ?_)
        · replace c32 := Classical.not_not.mp c32
          have hPP : rIn a (nI 0) (nI mb - nI 1) ∧ rIn y (nI 0) (nI 1) ∧ rIn w (nI 0) (nI 7) ∧ rIn z (nI 1) (nI 12) := ⟨c5, c14, c21, c32⟩
          simp only [if_pos hPP] at hQ
          obtain ⟨p, hp, rfl⟩ := rIn_m c5 (by have := hc.b6; omega)
          obtain ⟨r, hr0, hr7, rfl⟩ := rIn_k c21 (by decide) (by decide)
          obtain ⟨n, hn0, hn1, rfl⟩ := rIn_k c32 (by decide) (by decide)
          have hk := hc.okm hp
          have hb := hc.b6
          refine V_ald0 dX6_weights_38 ?_
          refine V_ild3 dX6_weights_39 ?_
          refine V_ild4 dX6_weights_40 ?_
          refine V_ild5 dX6_weights_42 ?_
          refine V_iv3 dX6_weights_44 wlX6_81 mdX6_findingAt miX6_findingAt rfl (hS.r0.1 0 (0, 6) rfl) rfl rfl (kX6_findingAt hS (by omega) ⟨rfl, ?_⟩)
          refine V_ist6 dX6_weights_47 rfl ?_
          refine V_ild6 dX6_weights_49 ?_
          refine V_ifeq (tgt := 61) dX6_weights_51 (by decide) (fun c51 => ?_) (fun c51 => ?_)
          · skip
            have hfd := c51
            unfold cFnd at hfd
            rw [nI_clamp (by omega)] at hfd
            obtain ⟨jj, rfl, hjn⟩ : ∃ j, x = nI j ∧ j + n ≤ 40 := by
              by_cases q1 : N 1 3 r = -1
              · rw [if_pos q1] at hfd; exact absurd hfd (by decide)
              · rw [if_neg q1] at hfd
                by_cases q2 : cHas (N 1) r x (nI n)
                · exact has_nat hsz (by omega) (by omega) q1 q2
                · rw [if_neg q2] at hfd; exact absurd hfd (by decide)
            refine V_ald0 dX6_weights_61 ?_
            refine V_getR dX6_weights_62 flX6_43 (hS.r0.1 0 (0, 6) rfl) (hS.r0.2 5 (30, 0) rfl) ?_
            refine V_ald0 dX6_weights_65 ?_
            refine V_getR dX6_weights_66 flX6_10 (hS.r0.1 0 (0, 6) rfl) (hS.r0.2 0 (1, 0) rfl) ?_
            refine V_ild3 dX6_weights_69 ?_
            refine V_in1 1 ?_
            refine V_iv1 dX6_weights_70 wlX6_266 mdX2_itemsOf miX2_itemsOf rfl (hS.r1.1 0 (0, 2) rfl) rfl rfl (kX2_itemsOf hS (by omega) ⟨rfl, ?_⟩)
            rw [va_up_id]
            refine V_ild4 dX6_weights_73 ?_
            refine V_ild5 dX6_weights_75 ?_
            refine V_in1 30 ?_
            refine V_iv3 dX6_weights_77 wlX6_270 mdX3_watch miX3_watch rfl (hS.r30.1 0 (0, 3) rfl) rfl rfl (kX3_watch hS (w := r) (by omega) (fun E2 e6 e7 ec => ⟨rfl, ?_⟩))
            have hS2 := hS.seen (g := some (1, 10 + r))
            have hN32 : N 3 = T := hN3
            refine V_in31 ?_
            refine V_ald0 dX6_weights_80 ?_
            refine V_ild2 dX6_weights_81 ?_
            refine V_ifne (tgt := 100) dX6_weights_82 (by decide) (fun cw => ?_) (fun cw => ?_)
            · skip
              refine V_ald0 dX6_weights_100 ?_
              refine V_getR dX6_weights_101 flX6_43 (hS.r0.1 0 (0, 6) rfl) (hS.r0.2 5 (30, 0) rfl) ?_
              refine V_ald0 dX6_weights_104 ?_
              refine V_getR dX6_weights_105 flX6_26 (hS.r0.1 0 (0, 6) rfl) (hS.r0.2 2 (3, 0) rfl) ?_
              refine V_iv1 dX6_weights_108 wlX6_283 mdX3_barsThatFit miX3_barsThatFit rfl (hS.r30.1 0 (0, 3) rfl) rfl rfl (kX3_barsThatFit hS2 hN32 hk (fr := jj) (tk := n) (w := r) (by omega) rfl e6 e7 hjn  (pv := pv) (fun U k h1 h2 => hv1 p r jj n rfl hp rfl (by omega) rfl hjn rfl hk cw U k h1 (by omega)) (fun T3 => ⟨rfl, ?_⟩))
              refine V_iv1 dX6_weights_111 wlX6_78 mdX6_foundNone miX6_foundNone rfl (hS.r0.1 0 (0, 6) rfl) rfl rfl (kX6_foundNone hS2 ⟨rfl, ?_⟩)
              refine V_ireturn dX6_weights_114 ⟨_, rfl, vp_nar_int _⟩ ?_
              have hq := hQ (xg G 30 0 (va_up (G 30 0) 6 (some (1, 10 + r)))) (cFd (va_up (va_up N 31 T3) 30 E2) 0) hS2 (fun q h0 h1 h2 => by unfold cFd; rw [va_up_no _ _ h0, va_up_no _ _ h1, va_up_no _ _ h2]) (by rw [c51]; exact va_up_eq _ _ _)
              rw [if_pos c51, hw.2 cw] at hq
              exact hq
            · skip
              refine V_ald0 dX6_weights_85 ?_
              refine V_getR dX6_weights_86 flX6_43 (hS.r0.1 0 (0, 6) rfl) (hS.r0.2 5 (30, 0) rfl) ?_
              refine V_ald0 dX6_weights_89 ?_
              refine V_getR dX6_weights_90 flX6_26 (hS.r0.1 0 (0, 6) rfl) (hS.r0.2 2 (3, 0) rfl) ?_
              refine V_ild1 dX6_weights_93 ?_
              refine V_iv2 dX6_weights_94 wlX6_280 mdX3_weightsThatFit miX3_weightsThatFit rfl (hS.r30.1 0 (0, 3) rfl) rfl rfl (kX3_weightsThatFit hS2 hN32 hk (fr := jj) (tk := n) (w := r) (by omega) rfl e6 e7 hjn (m := p) hp (pv := pv) (fun U k h1 h2 => hv0 p r jj n rfl hp rfl (by omega) rfl hjn rfl hk cw U k h1 (by omega)) (fun T3 => ⟨rfl, ?_⟩))
              refine V_goto (tgt := 111) dX6_weights_97 (by decide) ?_
              refine V_iv1 dX6_weights_111 wlX6_78 mdX6_foundNone miX6_foundNone rfl (hS.r0.1 0 (0, 6) rfl) rfl rfl (kX6_foundNone hS2 ⟨rfl, ?_⟩)
              refine V_ireturn dX6_weights_114 ⟨_, rfl, vp_nar_int _⟩ ?_
              have hq := hQ (xg G 30 0 (va_up (G 30 0) 6 (some (1, 10 + r)))) (cFd (va_up (va_up N 31 T3) 30 E2) 0) hS2 (fun q h0 h1 h2 => by unfold cFd; rw [va_up_no _ _ h0, va_up_no _ _ h1, va_up_no _ _ h2]) (by rw [c51]; exact va_up_eq _ _ _)
              rw [if_pos c51, hw.1 cw] at hq
              exact hq
          · skip
            refine V_ald0 dX6_weights_54 ?_
            refine V_ild6 dX6_weights_55 ?_
            refine V_iv1 dX6_weights_57 wlX6_70 mdX6_found miX6_found rfl (hS.r0.1 0 (0, 6) rfl) rfl rfl (kX6_found hS ⟨rfl, ?_⟩)
            refine V_ireturn dX6_weights_60 ⟨_, rfl, vp_nar_int _⟩ ?_
            have hq := hQ G (cFd N (cFnd (N 1) (nI r) x (nI n))) hS (fun q h0 h1 h2 => va_up_no _ _ h0) (va_up_eq _ _ _)
            rw [if_neg c51] at hq
            exact hq
        · skip
          refine V_ldc dX6_weights_35 wkX6_69 ?_
          refine V_ireturn dX6_weights_37 ⟨_, rfl, vp_nar_int _⟩ ?_
          have hq := hQ G N hS (fun _ _ _ _ => rfl) (by rw [if_neg (fun h => c32 h.2.2.2)])
          rw [if_neg (fun h => c32 h.2.2.2)] at hq
          exact hq
end K6
