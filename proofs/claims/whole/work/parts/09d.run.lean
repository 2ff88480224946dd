def cFd (N : xM) (v : Int32) : xM := va_up N 0 (va_up (N 0) 0 (upd (N 0 0) 9 v))
def cFnd (R : xT) (w x z : Int32) : Int32 := if R 3 w.toNatClampNeg = -1 then nI 1 else if cHas R w.toNatClampNeg x z then 0 else nI 2
theorem has_nat {R : xT} (hs : szOK (R 3)) {r : Nat} (hr : r < 8) {i : Int32} {n : Nat} (hn : n < 2 ^ 20) (h0 : ¬ R 3 r = -1) (h : cHas R r i (nI n)) : ∃ j, i = nI j ∧ j + n ≤ 40 := by
  rcases hs r hr with e | ⟨k, hk, e⟩
  · exact absurd e h0
  · obtain ⟨h1, _, h3⟩ := h
    rw [e] at h3
    rcases Nat.lt_or_ge k n with q | q
    · exfalso
      apply h3
      have e1 : nI k - nI n = -nI (n - k) := by
        have : nI k - nI n = -(nI n - nI k) := by rw [Int32.neg_sub]
        rw [this, pk_sub (by omega)]
      rw [e1]
      have e2 : (-nI (n - k)) < 0 := by
        rw [Int32.lt_iff_toInt_lt, Int32.toInt_neg, nI_toInt (by omega)]
        rw [show (0 : Int32).toInt = 0 by decide, Int.bmod_def]
        omega
      exact Int32.lt_of_lt_of_le e2 (Int32.not_lt.mp h1)
    · rw [pk_sub q] at h3
      rcases pk_ix i (n := k - n + 1) (by omega) with q2 | q2 | ⟨j, q2, q3⟩
      · exact absurd q2 h1
      · exact absurd (Int32.lt_of_lt_of_le (nI_lt (Nat.lt_succ_self _) (by omega)) q2) h3
      · exact ⟨j, q3, by omega⟩
section K6
variable {d : Nat} {b : Nat × Nat} {Y : xY} {G : xG} {N : xM} {T : xT} {Q : Option xAV → xY → xG → xM → Prop}
theorem kX6_found (hS : xSt Y G) {v : Int32} (hQ : Q (some (xI (-1000010 - v))) Y G (cFd N v)) : V RX6 false cX6_found 2 (some .int) none d b 0 [some (xR 0 0), some (xI v)] [] Y G N Q := by
  refine V_in1 0 ?_
  refine V_ald0 dX6_found_0 ?_
  refine V_ild1 dX6_found_1 ?_
  refine V_putIr dX6_found_2 fwX6_62 (hS.r0.1 0 (0, 6) rfl) ?_
  refine V_ldc_w dX6_found_5 wkX6_338 ?_
  refine V_ild1 dX6_found_8 ?_
  refine V_isub dX6_found_9 ?_
  refine V_ireturn dX6_found_10 ⟨_, rfl, vp_nar_int _⟩ ?_
  exact hQ
theorem kX6_foundNone (hS : xSt Y G) {v : Int32} (hQ : Q (some (xI v)) Y G (cFd N 0)) : V RX6 false cX6_foundNone 2 (some .int) none d b 0 [some (xR 0 0), some (xI v)] [] Y G N Q := by
  refine V_in1 0 ?_
  refine V_ald0 dX6_foundNone_0 ?_
  refine V_iconst (v := 0) dX6_foundNone_1 (by decide) ?_
  refine V_putIr dX6_foundNone_2 fwX6_62 (hS.r0.1 0 (0, 6) rfl) ?_
  refine V_ild1 dX6_foundNone_5 ?_
  refine V_ireturn dX6_foundNone_6 ⟨_, rfl, vp_nar_int _⟩ ?_
  exact hQ
theorem kX6_findingAt (hS : xSt Y G) {r : Nat} (hr : r < 8) {x z : Int32} (hQ : Q (some (xI (cFnd (N 1) (nI r) x z))) Y G N) : V RX6 false cX6_findingAt 4 (some .int) none (d + 1) b 0 [some (xR 0 0), some (xI (nI r)), some (xI x), some (xI z)] [] Y G N Q := by
  refine V_ald0 dX6_findingAt_0 ?_
  refine V_getR dX6_findingAt_1 flX6_10 (hS.r0.1 0 (0, 6) rfl) (hS.r0.2 0 (1, 0) rfl) ?_
  refine V_ild1 dX6_findingAt_4 ?_
  refine V_in1 1 ?_
  refine V_iv1 dX6_findingAt_5 wlX6_88 mdX2_isMissing miX2_isMissing rfl (hS.r1.1 0 (0, 2) rfl) rfl rfl (kX2_isMissing hS hr ⟨rfl, ?_⟩)
  rw [va_up_id]
  refine V_ifeqB (tgt := 13) dX6_findingAt_8 (by decide) (fun c8 => ?_) (fun c8 => ?_)
  · skip
    refine V_ald0 dX6_findingAt_13 ?_
    refine V_getR dX6_findingAt_14 flX6_10 (hS.r0.1 0 (0, 6) rfl) (hS.r0.2 0 (1, 0) rfl) ?_
    refine V_ild1 dX6_findingAt_17 ?_
    refine V_ild2 dX6_findingAt_18 ?_
    refine V_ild3 dX6_findingAt_19 ?_
    refine V_in1 1 ?_
    refine V_iv3 dX6_findingAt_20 wlX6_94 mdX2_has miX2_has rfl (hS.r1.1 0 (0, 2) rfl) rfl rfl (kX2_has hS hr ⟨rfl, ?_⟩)
    rw [va_up_id]
    refine V_ifeqB (tgt := 30) dX6_findingAt_23 (by decide) (fun c23 => ?_) (fun c23 => ?_)
    · skip
      refine V_iconst (v := nI 2) dX6_findingAt_30 (by decide) ?_
      refine V_ireturn dX6_findingAt_31 ⟨_, rfl, vp_nar_int _⟩ ?_
      unfold cFnd at hQ
      rw [nI_clamp (by omega), if_neg c8, if_neg c23] at hQ
      exact hQ
    · skip
      refine V_iconst (v := 0) dX6_findingAt_26 (by decide) ?_
      refine V_goto (tgt := 31) dX6_findingAt_27 (by decide) ?_
      refine V_ireturn dX6_findingAt_31 ⟨_, rfl, vp_nar_int _⟩ ?_
      unfold cFnd at hQ
      rw [nI_clamp (by omega), if_neg c8, if_pos c23] at hQ
      exact hQ
  · skip
    refine V_iconst (v := nI 1) dX6_findingAt_11 (by decide) ?_
    refine V_ireturn dX6_findingAt_12 ⟨_, rfl, vp_nar_int _⟩ ?_
    unfold cFnd at hQ
    rw [nI_clamp (by omega), if_pos c8] at hQ
    exact hQ
theorem kX6_jam (hS : xSt Y G) (hN3 : N 3 = T) {mb pn : Nat} (hc : cSt T mb pn) {a b2 x y : Int32} {v : Int64} {pv : Nat → Bool} (hv : ∀ m n, a = nI m → m < mb → b2 = nI n → n ≤ 30 → tOK mb pn T → ∀ U k, k < 2 ^ pn → (tRunOn mb n (tPut (tLike U T) 0 4 (nI k)) 8 m = nI 9 ↔ pv k = true)) (hv2 : ∀ p, x = nI p → p ≤ 10 → aJam (jamN (fun i => p ^ bcN i * (10 - p) ^ (pn - bcN i)) pv (2 ^ pn)) (10 ^ pn) y = v) (hQ : ∀ N2, cStay N N2 → Q (some (xJ (if rIn a (nI 0) (nI mb - nI 1) ∧ rIn b2 (nI 0) (nI 30) ∧ rIn x (nI 0) (nI 10) ∧ rIn y (nI 0) (nI 1) then v else -1000001))) Y G N2) : V RX6 false cX6_jam 11 (some .long) none (d + 5) b 0 [some (xR 0 0), some (xI a), some (xI b2), some (xI x), some (xI y), none, none, none, none, none, none] [] Y G N Q := by
  refine V_ald0 dX6_jam_0 ?_
  refine V_ild1 dX6_jam_1 ?_
  refine V_iv1 dX6_jam_2 wlX6_180 mdX6_noMarble miX6_noMarble rfl (hS.r0.1 0 (0, 6) rfl) rfl rfl (kX6_noMarble hS hN3 hc ⟨rfl, ?_⟩)
  refine V_ifneB (tgt := 38) dX6_jam_5 (by decide) (fun c5 => ?_) (fun c5 => ?_)
  · skip
    refine V_ldc2 dX6_jam_38 wjX6_287 ?_
    refine V_lreturn dX6_jam_41 rfl ?_
    have hq := hQ N (cStay.rf N)
    rw [if_neg (fun h => c5 h.1)] at hq
    exact hq
  · replace c5 := Classical.not_not.mp c5
    refine V_ild2 dX6_jam_8 ?_
    refine V_iconst (v := nI 0) dX6_jam_9 (by decide) ?_
    refine V_bipush (v := nI 30) dX6_jam_10 (by decide) ?_
    refine V_is3 dX6_jam_12 wlX6_217 mdX6_outside msX6_outside rfl rfl (kX6_outside ⟨rfl, ?_⟩)
    refine V_ifneB (tgt := 38) dX6_jam_15 (by decide) (fun c15 => ?_) (fun c15 => ?_)
    · skip
      refine V_ldc2 dX6_jam_38 wjX6_287 ?_
      refine V_lreturn dX6_jam_41 rfl ?_
      have hq := hQ N (cStay.rf N)
      rw [if_neg (fun h => c15 h.2.1)] at hq
      exact hq
    · replace c15 := Classical.not_not.mp c15
      refine V_ild3 dX6_jam_18 ?_
      refine V_iconst (v := nI 0) dX6_jam_19 (by decide) ?_
      refine V_bipush (v := nI 10) dX6_jam_20 (by decide) ?_
      refine V_is3 dX6_jam_22 wlX6_217 mdX6_outside msX6_outside rfl rfl (kX6_outside ⟨rfl, ?_⟩)
      refine V_ifneB (tgt := 38) dX6_jam_25 (by decide) (fun c25 => ?_) (fun c25 => ?_)
      · skip
        refine V_ldc2 dX6_jam_38 wjX6_287 ?_
        refine V_lreturn dX6_jam_41 rfl ?_
        have hq := hQ N (cStay.rf N)
        rw [if_neg (fun h => c25 h.2.2.1)] at hq
        exact hq
      · replace c25 := Classical.not_not.mp c25
        refine V_ild4 dX6_jam_28 ?_
        refine V_iconst (v := nI 0) dX6_jam_30 (by decide) ?_
        refine V_iconst (v := nI 1) dX6_jam_31 (by decide) ?_
        refine V_is3 dX6_jam_32 wlX6_217 mdX6_outside msX6_outside rfl rfl (kX6_outside ⟨rfl, ?_⟩)
        refine V_ifeqB (tgt := 42) dX6_jam_35 (by decide) (fun c35 => ?_) (fun c35 => ?_)
        · replace c35 := Classical.not_not.mp c35
          obtain ⟨m, hm, rfl⟩ := rIn_m c5 (by have := hc.b6; omega)
          obtain ⟨n, hn0, hn1, rfl⟩ := rIn_k c15 (by decide) (by decide)
          obtain ⟨p, hp0, hp1, rfl⟩ := rIn_k c25 (by decide) (by decide)
          have hk := hc.okm hm
          have hpn := hk.pn
          have hsum := csR_sum (pn := pn) hp1 pn
          have h10 : 10 ^ pn ≤ 10 ^ 8 := Nat.pow_le_pow_right (by decide) hpn
          have h11 : 0 < 10 ^ pn := Nat.pow_pos (by decide)
          have hle := jamN_le (fun s => csR p pn s pn) pv (2 ^ pn)
          have hcg : jamN (fun i => p ^ bcN i * (10 - p) ^ (pn - bcN i)) pv (2 ^ pn) = jamN (fun s => csR p pn s pn) pv (2 ^ pn) := jamN_cong _ (fun i hi => (csR_bc p (by omega) pn (by omega) i hi).symm)
          refine V_ald0 dX6_jam_42 ?_
          refine V_getR dX6_jam_43 flX6_43 (hS.r0.1 0 (0, 6) rfl) (hS.r0.2 5 (30, 0) rfl) ?_
          refine V_ald0 dX6_jam_46 ?_
          refine V_getR dX6_jam_47 flX6_26 (hS.r0.1 0 (0, 6) rfl) (hS.r0.2 2 (3, 0) rfl) ?_
          refine V_ild1 dX6_jam_50 ?_
          refine V_ild2 dX6_jam_51 ?_
          refine V_ild3 dX6_jam_52 ?_
          refine V_in2 ?_
          refine V_iv4 dX6_jam_53 wlX6_289 mdX3_jamCases miX3_jamCases rfl (hS.r30.1 0 (0, 3) rfl) rfl rfl (kX3_jamCases hS hN3 hk (m := m) (n := n) (p := p) (pv := pv) hm (by omega) hp1 rfl (hv m n rfl hm rfl hn1 hk) (fun T2 => ⟨rfl, ?_⟩))
          refine V_lst5 dX6_jam_56 rfl ?_
          refine V_ldc2 dX6_jam_58 wjX6_293 ?_
          refine V_ald0 dX6_jam_61 ?_
          refine V_getR dX6_jam_62 flX6_26 (hS.r0.1 0 (0, 6) rfl) (hS.r0.2 2 (3, 0) rfl) ?_
          refine V_getI dX6_jam_65 flX6_134 ((hS.tr 3 rfl).1 0 (0, 5) rfl) ?_
          refine V_eqI (by rw [va_up_no _ _ (by decide), va_up_no _ _ (by decide), hN3]; exact hc.2.1 : _ = nI pn) ?_
          rw [show (10 : Int64) = lN 10 by decide]
          refine V_is2 dX6_jam_68 wlX6_295 mdX6_power msX6_power rfl rfl (kX6_power (by omega) ⟨rfl, ?_⟩)
          refine V_lst7 dX6_jam_71 rfl ?_
          refine V_lld5 dX6_jam_73 ?_
          refine V_lld7 dX6_jam_75 ?_
          refine V_is2 dX6_jam_77 wlX6_299 mdX6_commonDivisor msX6_commonDivisor rfl rfl (kX6_commonDivisor (a := jamN (fun i => p ^ bcN i * (10 - p) ^ (pn - bcN i)) pv (2 ^ pn)) (e := 10 ^ pn) (by omega) (by omega) rfl ⟨rfl, ?_⟩)
          refine V_lst9 dX6_jam_80 rfl ?_
          have hg : 0 < Nat.gcd (jamN (fun i => p ^ bcN i * (10 - p) ^ (pn - bcN i)) pv (2 ^ pn)) (10 ^ pn) := Nat.gcd_pos_of_pos_right _ h11
          have hg2 : Nat.gcd (jamN (fun i => p ^ bcN i * (10 - p) ^ (pn - bcN i)) pv (2 ^ pn)) (10 ^ pn) ≤ 10 ^ pn := Nat.gcd_le_right _ h11
          have hq := hQ _ (cStay.a N T2 (N 30))
          rw [if_pos ⟨c5, c15, c25, c35⟩, ← hv2 p rfl hp1] at hq
          unfold aJam at hq
          refine V_lld9 dX6_jam_82 ?_
          refine V_lconst (v := lN 0) dX6_jam_84 (rfl) ?_
          refine V_lcmp dX6_jam_85 ?_
          refine V_ifgt (tgt := 93) dX6_jam_86 (by decide) (fun c86 => ?_) (fun c86 => ?_)
          · skip
            refine V_ild4 dX6_jam_93 ?_
            refine V_ifne (tgt := 106) dX6_jam_95 (by decide) (fun c95 => ?_) (fun c95 => ?_)
            · skip
              refine V_lld7 dX6_jam_106 ?_
              refine V_lld9 dX6_jam_108 ?_
              refine V_ldiv dX6_jam_110 (fun e => absurd ((pk_lEQ (by omega) (by decide)).mp (show lN (Nat.gcd _ _) = lN 0 from e)) (by omega)) ?_
              rw [pk_lDiv (by omega) hg (by omega)]
              refine V_lreturn dX6_jam_111 rfl ?_
              rw [if_neg c95] at hq
              exact hq
            · skip
              refine V_lld5 dX6_jam_98 ?_
              refine V_lld9 dX6_jam_100 ?_
              refine V_ldiv dX6_jam_102 (fun e => absurd ((pk_lEQ (by omega) (by decide)).mp (show lN (Nat.gcd _ _) = lN 0 from e)) (by omega)) ?_
              rw [pk_lDiv (by omega) hg (by omega)]
              refine V_goto (tgt := 111) dX6_jam_103 (by decide) ?_
              refine V_lreturn dX6_jam_111 rfl ?_
              rw [if_pos c95] at hq
              exact hq
          · exact absurd ((pk_lLE (by omega) (by decide)).mp (show lN _ ≤ lN 0 from (lg_cmp_le _ _).mp (Int32.not_lt.mp c86))) (by omega)
        · skip
          refine V_ldc2 dX6_jam_38 wjX6_287 ?_
          refine V_lreturn dX6_jam_41 rfl ?_
          have hq := hQ N (cStay.rf N)
          rw [if_neg (fun h => c35 h.2.2.2)] at hq
          exact hq
end K6
