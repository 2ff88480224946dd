theorem nn_nat {n : Int32} (h : ¬ n < 0) : ∃ m, m < 2 ^ 31 ∧ n = nI m := by
  rw [Int32.lt_iff_toInt_lt, show (0 : Int32).toInt = 0 by decide] at h
  have hx := Int32.toInt_lt n
  refine ⟨n.toInt.toNat, by omega, Int32.toInt_inj.mp ?_⟩
  rw [nI_toInt (by omega)]
  omega
theorem has_nat2 {R : xT} (hs : szOK (R 3)) {r : Nat} (hr : r < 8) {i n : Int32} (h0 : ¬ R 3 r = -1) (h : cHas R r i n) : ∃ j m len, i = nI j ∧ n = nI m ∧ R 3 r = nI len ∧ j + m ≤ len ∧ len ≤ 40 := by
  obtain ⟨h1, h2, h3⟩ := h
  obtain ⟨m, hm, rfl⟩ := nn_nat h2
  obtain ⟨j, hj, rfl⟩ := nn_nat h1
  rcases hs r hr with e | ⟨k, hk, e⟩
  · exact absurd e h0
  · refine ⟨j, m, k, rfl, rfl, e, ?_, hk⟩
    rw [e, Int32.not_lt, Int32.le_iff_toInt_le, Int32.toInt_sub, nI_toInt hj, nI_toInt (by omega), nI_toInt hm, Int.bmod_def] at h3
    omega
def cKp (N : xM) (nx mn : Nat) : xM := va_up (va_up N (6 + nx) (tLike (N (6 + nx)) (N 3))) 5 (cKeep (N 5) nx mn)
theorem cKp_no (N : xM) {nx : Nat} (mn : Nat) {r : Nat} (h5 : r ≠ 5) (h6 : r ≠ 6 + nx) : cKp N nx mn r = N r := by unfold cKp; rw [va_up_no _ _ h5, va_up_no _ _ h6]
theorem cKeep_1 (A : xT) (nx mn : Nat) : cKeep A nx mn 0 1 = nI ((nx + 1) % 24) := by
  unfold cKeep cK1
  rw [va_up_eq, upd_no _ _ (by decide), va_up_eq, upd_eq]
theorem cKeep_2 (A : xT) (nx : Nat) {mn : Nat} (h : mn ≤ 24) : cKeep A nx mn 0 2 = nI (nxA mn) := by
  unfold cKeep nxA
  rw [va_up_eq, upd_eq]
  by_cases h1 : mn + 1 < 24
  · rw [if_pos (nI_lt h1 (by decide)), if_neg (by omega)]
  · rw [if_neg (nI_nlt (by omega) (by omega))]
    by_cases h2 : mn = 24
    · rw [if_pos h2]
    · rw [if_neg h2, show mn + 1 = 24 by omega]
def cTk1 (N : xM) (nx mn mb : Nat) : xM := va_up (cKp N nx mn) 3 (tPass (cKp N nx mn 3) mb)
def cTks (mb : Nat) : Nat → Nat → Nat → xM → xM
  | 0, _, _, N => N
  | n + 1, nx, mn, N => cTks mb n ((nx + 1) % 24) (nxA mn) (cTk1 N nx mn mb)
section K6
variable {d : Nat} {b : Nat × Nat} {Y : xY} {G : xG} {N : xM} {T : xT} {Q : Option xAV → xY → xG → xM → Prop}
theorem kX6_copy (hS : xSt Y G) (hsz : szOK (N 1 3)) {a x e y z : Int32} (hB : ¬ (rIn a (nI 0) (nI 7) ∧ rIn e (nI 0) (nI 7)) → Q (some (xI (-1000001))) Y G N) (h1 : ∀ ra rb, a = nI ra → ra < 8 → e = nI rb → rb < 8 → (N 1 3 ra = -1 ∨ N 1 3 rb = -1) → Q (some (xI (-1000010 - nI 1))) Y G (cFd N (nI 1))) (h5 : ∀ ra rb, a = nI ra → ra < 8 → e = nI rb → rb < 8 → ¬ N 1 3 ra = -1 → ¬ N 1 3 rb = -1 → ¬ N 1 2 ra = N 1 2 rb → Q (some (xI (-1000010 - nI 5))) Y G (cFd N (nI 5))) (h2 : ∀ ra rb, a = nI ra → ra < 8 → e = nI rb → rb < 8 → ¬ N 1 3 ra = -1 → ¬ N 1 3 rb = -1 → N 1 2 ra = N 1 2 rb → ¬ (cHas (N 1) ra x z ∧ cHas (N 1) rb y z) → Q (some (xI (-1000010 - nI 2))) Y G (cFd N (nI 2))) (hO : ∀ ra rb i j n, a = nI ra → ra < 8 → e = nI rb → rb < 8 → x = nI i → y = nI j → z = nI n → i + n ≤ 40 → j + n ≤ 40 → ¬ N 1 3 ra = -1 → ¬ N 1 3 rb = -1 → N 1 2 ra = N 1 2 rb → cHas (N 1) ra x z ∧ cHas (N 1) rb y z → Q (some (xI (nI n))) Y G (cFd (va_up N 1 (va_up (N 1) (10 + rb) (va_cpy (N 1 (10 + ra)) (N 1 (10 + rb)) i j n))) 0)) : V RX6 false cX6_copy 6 (some .int) none (d + 2) b 0 [some (xR 0 0), some (xI a), some (xI x), some (xI e), some (xI y), some (xI z)] [] Y G N Q := by
  refine V_ild1 dX6_copy_0 ?_
  refine V_is1 dX6_copy_1 wlX6_65 mdX6_noRow msX6_noRow rfl rfl (kX6_noRow ⟨rfl, ?_⟩)
  refine V_ifneB (tgt := 14) dX6_copy_4 (by decide) (fun c4 => ?_) (fun c4 => ?_)
  · skip
    refine V_ldc dX6_copy_14 wkX6_69 ?_
    refine V_ireturn dX6_copy_16 ⟨_, rfl, vp_nar_int _⟩ ?_
    exact hB (fun h => c4 h.1)
  · replace c4 := Classical.not_not.mp c4
    refine V_ild3 dX6_copy_7 ?_
    refine V_is1 dX6_copy_8 wlX6_65 mdX6_noRow msX6_noRow rfl rfl (kX6_noRow ⟨rfl, ?_⟩)
    refine V_ifeqB (tgt := 17) dX6_copy_11 (by decide) (fun c11 => ?_) (fun c11 => ?_)
    · replace c11 := Classical.not_not.mp c11
      obtain ⟨ra, hra0, hra, rfl⟩ := rIn_k c4 (by decide) (by decide)
      obtain ⟨rb, hrb0, hrb, rfl⟩ := rIn_k c11 (by decide) (by decide)
      refine V_ald0 dX6_copy_17 ?_
      refine V_getR dX6_copy_18 flX6_10 (hS.r0.1 0 (0, 6) rfl) (hS.r0.2 0 (1, 0) rfl) ?_
      refine V_ild1 dX6_copy_21 ?_
      refine V_in1 1 ?_
      refine V_iv1 dX6_copy_22 wlX6_88 mdX2_isMissing miX2_isMissing rfl (hS.r1.1 0 (0, 2) rfl) rfl rfl (kX2_isMissing hS (by omega) ⟨rfl, ?_⟩)
      rw [va_up_id]
      refine V_ifneB (tgt := 39) dX6_copy_25 (by decide) (fun c25 => ?_) (fun c25 => ?_)
      · skip
        refine V_ald0 dX6_copy_39 ?_
        refine V_iconst (v := nI 1) dX6_copy_40 (by decide) ?_
        refine V_iv1 dX6_copy_41 wlX6_70 mdX6_found miX6_found rfl (hS.r0.1 0 (0, 6) rfl) rfl rfl (kX6_found hS ⟨rfl, ?_⟩)
        refine V_ireturn dX6_copy_44 ⟨_, rfl, vp_nar_int _⟩ ?_
        exact h1 ra rb rfl (by omega) rfl (by omega) (Or.inl c25)
      · skip
        refine V_ald0 dX6_copy_28 ?_
        refine V_getR dX6_copy_29 flX6_10 (hS.r0.1 0 (0, 6) rfl) (hS.r0.2 0 (1, 0) rfl) ?_
        refine V_ild3 dX6_copy_32 ?_
        refine V_in1 1 ?_
        refine V_iv1 dX6_copy_33 wlX6_88 mdX2_isMissing miX2_isMissing rfl (hS.r1.1 0 (0, 2) rfl) rfl rfl (kX2_isMissing hS (by omega) ⟨rfl, ?_⟩)
        rw [va_up_id]
        refine V_ifeqB (tgt := 45) dX6_copy_36 (by decide) (fun c36 => ?_) (fun c36 => ?_)
        · skip
          refine V_ald0 dX6_copy_45 ?_
          refine V_getR dX6_copy_46 flX6_10 (hS.r0.1 0 (0, 6) rfl) (hS.r0.2 0 (1, 0) rfl) ?_
          refine V_ild1 dX6_copy_49 ?_
          refine V_in1 1 ?_
          refine V_iv1 dX6_copy_50 wlX6_91 mdX2_laneOf miX2_laneOf rfl (hS.r1.1 0 (0, 2) rfl) rfl rfl (kX2_laneOf hS (by omega) ⟨rfl, ?_⟩)
          rw [va_up_id]
          refine V_ald0 dX6_copy_53 ?_
          refine V_getR dX6_copy_54 flX6_10 (hS.r0.1 0 (0, 6) rfl) (hS.r0.2 0 (1, 0) rfl) ?_
          refine V_ild3 dX6_copy_57 ?_
          refine V_in1 1 ?_
          refine V_iv1 dX6_copy_58 wlX6_91 mdX2_laneOf miX2_laneOf rfl (hS.r1.1 0 (0, 2) rfl) rfl rfl (kX2_laneOf hS (by omega) ⟨rfl, ?_⟩)
          rw [va_up_id]
          refine V_icmpeq (tgt := 70) dX6_copy_61 (by decide) (fun c61 => ?_) (fun c61 => ?_)
          · skip
            refine V_ald0 dX6_copy_70 ?_
            refine V_getR dX6_copy_71 flX6_10 (hS.r0.1 0 (0, 6) rfl) (hS.r0.2 0 (1, 0) rfl) ?_
            refine V_ild1 dX6_copy_74 ?_
            refine V_ild2 dX6_copy_75 ?_
            refine V_ild5 dX6_copy_76 ?_
            refine V_in1 1 ?_
            refine V_iv3 dX6_copy_78 wlX6_94 mdX2_has miX2_has rfl (hS.r1.1 0 (0, 2) rfl) rfl rfl (kX2_has hS (by omega) ⟨rfl, ?_⟩)
            rw [va_up_id]
            refine V_ifeqB (tgt := 99) dX6_copy_81 (by decide) (fun c81 => ?_) (fun c81 => ?_)
            · skip
              refine V_ald0 dX6_copy_99 ?_
              refine V_iconst (v := nI 2) dX6_copy_100 (by decide) ?_
              refine V_iv1 dX6_copy_101 wlX6_70 mdX6_found miX6_found rfl (hS.r0.1 0 (0, 6) rfl) rfl rfl (kX6_found hS ⟨rfl, ?_⟩)
              refine V_ireturn dX6_copy_104 ⟨_, rfl, vp_nar_int _⟩ ?_
              exact h2 ra rb rfl (by omega) rfl (by omega) c25 c36 c61 (fun h => c81 h.1)
            · skip
              refine V_ald0 dX6_copy_84 ?_
              refine V_getR dX6_copy_85 flX6_10 (hS.r0.1 0 (0, 6) rfl) (hS.r0.2 0 (1, 0) rfl) ?_
              refine V_ild3 dX6_copy_88 ?_
              refine V_ild4 dX6_copy_89 ?_
              refine V_ild5 dX6_copy_91 ?_
              refine V_in1 1 ?_
              refine V_iv3 dX6_copy_93 wlX6_94 mdX2_has miX2_has rfl (hS.r1.1 0 (0, 2) rfl) rfl rfl (kX2_has hS (by omega) ⟨rfl, ?_⟩)
              rw [va_up_id]
              refine V_ifneB (tgt := 105) dX6_copy_96 (by decide) (fun c96 => ?_) (fun c96 => ?_)
              · skip
                have c81b := c81
                have c96b := c96
                obtain ⟨ii, nn, la, rfl, rfl, hla, hl1, hl2⟩ := has_nat2 hsz (by omega) c25 c81b
                obtain ⟨jj, nn2, lb, rfl, hnn, hlb, hl3, hl4⟩ := has_nat2 hsz (by omega) c36 c96b
                obtain rfl : nn = nn2 := nI_inj (by omega) (by have := hl3; omega) hnn
                refine V_ald0 dX6_copy_105 ?_
                refine V_getR dX6_copy_106 flX6_10 (hS.r0.1 0 (0, 6) rfl) (hS.r0.2 0 (1, 0) rfl) ?_
                refine V_ild1 dX6_copy_109 ?_
                refine V_ild2 dX6_copy_110 ?_
                refine V_ild3 dX6_copy_111 ?_
                refine V_ild4 dX6_copy_112 ?_
                refine V_ild5 dX6_copy_114 ?_
                refine V_in1 1 ?_
                refine V_iv5 dX6_copy_116 wlX6_98 mdX2_move miX2_move rfl (hS.r1.1 0 (0, 2) rfl) rfl rfl (kX2_move hS (a := ra) (c := rb) (i := ii) (k := jj) (n := nn) (by omega) (by omega) (by omega) (by omega) ⟨rfl, ?_⟩)
                refine V_ald0 dX6_copy_119 ?_
                refine V_ild5 dX6_copy_120 ?_
                refine V_iv1 dX6_copy_122 wlX6_78 mdX6_foundNone miX6_foundNone rfl (hS.r0.1 0 (0, 6) rfl) rfl rfl (kX6_foundNone hS ⟨rfl, ?_⟩)
                refine V_ireturn dX6_copy_125 ⟨_, rfl, vp_nar_int _⟩ ?_
                exact hO ra rb ii jj nn rfl (by omega) rfl (by omega) rfl rfl rfl (by omega) (by omega) c25 c36 c61 ⟨c81, c96⟩
              · skip
                refine V_ald0 dX6_copy_99 ?_
                refine V_iconst (v := nI 2) dX6_copy_100 (by decide) ?_
                refine V_iv1 dX6_copy_101 wlX6_70 mdX6_found miX6_found rfl (hS.r0.1 0 (0, 6) rfl) rfl rfl (kX6_found hS ⟨rfl, ?_⟩)
                refine V_ireturn dX6_copy_104 ⟨_, rfl, vp_nar_int _⟩ ?_
                exact h2 ra rb rfl (by omega) rfl (by omega) c25 c36 c61 (fun h => c96 h.2)
          · skip
            refine V_ald0 dX6_copy_64 ?_
            refine V_iconst (v := nI 5) dX6_copy_65 (by decide) ?_
            refine V_iv1 dX6_copy_66 wlX6_70 mdX6_found miX6_found rfl (hS.r0.1 0 (0, 6) rfl) rfl rfl (kX6_found hS ⟨rfl, ?_⟩)
            refine V_ireturn dX6_copy_69 ⟨_, rfl, vp_nar_int _⟩ ?_
            exact h5 ra rb rfl (by omega) rfl (by omega) c25 c36 c61
        · skip
          refine V_ald0 dX6_copy_39 ?_
          refine V_iconst (v := nI 1) dX6_copy_40 (by decide) ?_
          refine V_iv1 dX6_copy_41 wlX6_70 mdX6_found miX6_found rfl (hS.r0.1 0 (0, 6) rfl) rfl rfl (kX6_found hS ⟨rfl, ?_⟩)
          refine V_ireturn dX6_copy_44 ⟨_, rfl, vp_nar_int _⟩ ?_
          exact h1 ra rb rfl (by omega) rfl (by omega) (Or.inr c36)
    · skip
      refine V_ldc dX6_copy_14 wkX6_69 ?_
      refine V_ireturn dX6_copy_16 ⟨_, rfl, vp_nar_int _⟩ ?_
      exact hB (fun h => c11 h.2)
theorem kX6_tip (hS : xSt Y G) (hN3 : N 3 = T) {mb pn : Nat} (hc : cSt T mb pn) {nx mn : Nat} (hnx : N 5 0 1 = nI nx) (hn : nx < 24) (hmn : N 5 0 2 = nI mn) (hm : mn ≤ 24) {a : Int32} (hB : ¬ rIn a (nI 0) (nI pn - nI 1) → Q (some (xI (-1000001))) Y G N) (hO : ∀ p, a = nI p → p < pn → Q (some (xI (tSwing T p 10 p))) Y G (va_up (cKp N nx mn) 3 (tSwing T p))) : V RX6 false cX6_tip 2 (some .int) none (d + 3) b 0 [some (xR 0 0), some (xI a)] [] Y G N Q := by
  refine V_ald0 dX6_tip_0 ?_
  refine V_ild1 dX6_tip_1 ?_
  refine V_iv1 dX6_tip_2 wlX6_160 mdX6_noPiece miX6_noPiece rfl (hS.r0.1 0 (0, 6) rfl) rfl rfl (kX6_noPiece hS hN3 hc ⟨rfl, ?_⟩)
  refine V_ifeqB (tgt := 11) dX6_tip_5 (by decide) (fun c5 => ?_) (fun c5 => ?_)
  · replace c5 := Classical.not_not.mp c5
    obtain ⟨p, hp, rfl⟩ := rIn_m c5 (by have := hc.b6; omega)
    have hb := hc.b6
    refine V_ald0 dX6_tip_11 ?_
    refine V_getR dX6_tip_12 flX6_36 (hS.r0.1 0 (0, 6) rfl) (hS.r0.2 4 (5, 0) rfl) ?_
    refine V_ald0 dX6_tip_15 ?_
    refine V_getR dX6_tip_16 flX6_26 (hS.r0.1 0 (0, 6) rfl) (hS.r0.2 2 (3, 0) rfl) ?_
    refine V_iv1 dX6_tip_19 wlX6_151 mdX0_keep miX0_keep rfl (hS.r5.1 0 (0, 0) rfl) rfl rfl (kX0_keep hS rfl hnx hn hmn hm (hS.tr 3 rfl) (by omega) ⟨rfl, ?_⟩)
    refine V_eqN (N' := cKp N nx mn) rfl ?_
    refine V_ald0 dX6_tip_22 ?_
    refine V_getR dX6_tip_23 flX6_26 (hS.r0.1 0 (0, 6) rfl) (hS.r0.2 2 (3, 0) rfl) ?_
    refine V_ild1 dX6_tip_26 ?_
    refine V_in1 3 ?_
    refine V_iv1 dX6_tip_27 wlX6_163 mdX5_swing miX5_swing rfl ((hS.tr 3 rfl).1 0 (0, 5) rfl) rfl rfl (kX5_swing (hS.tr 3 rfl) (by omega) ⟨rfl, ?_⟩)
    refine V_ald0 dX6_tip_30 ?_
    refine V_getR dX6_tip_31 flX6_26 (hS.r0.1 0 (0, 6) rfl) (hS.r0.2 2 (3, 0) rfl) ?_
    refine V_getR dX6_tip_34 flX6_167 ((hS.tr 3 rfl).1 0 (0, 5) rfl) (show G 3 0 9 = some (3, 10) from (hS.tr 3 rfl).2 9 (by decide) (by decide)) ?_
    refine V_ild1 dX6_tip_37 ?_
    refine V_ia dX6_tip_38 ((hS.tr 3 rfl).1 10 (1, 8) rfl) (by omega) (by decide) ?_
    refine V_eqI (by rw [va_up_eq, cKp_no N mn (r := 3) (by decide) (by omega), hN3] : _ = tSwing T p 10 p) ?_
    refine V_ireturn dX6_tip_39 ⟨_, rfl, vp_nar_int _⟩ ?_
    rw [cKp_no N mn (r := 3) (by decide) (by omega), hN3]
    exact hO p rfl hp
  · skip
    refine V_ldc dX6_tip_8 wkX6_69 ?_
    refine V_ireturn dX6_tip_10 ⟨_, rfl, vp_nar_int _⟩ ?_
    exact hB c5
theorem kX6_again (hS : xSt Y G) (hN3 : N 3 = T) {mb pn : Nat} (hc : cSt T mb pn) {nx mn : Nat} (hnx : N 5 0 1 = nI nx) (hn : nx < 24) (hmn : N 5 0 2 = nI mn) (hm : mn ≤ 24) {a z : Int32} (hB : ¬ (rIn a (nI 0) (nI mb - nI 1) ∧ rIn z (nI 1) (nI 9)) → Q (some (xI (-1000001))) Y G N) (hT : ∀ m q, a = nI m → m < mb → z = nI q → 1 ≤ q → q ≤ 9 → ¬ tInTray T m → Q (some (xI (-1000002))) Y G N) (hO : ∀ m q, a = nI m → m < mb → z = nI q → 1 ≤ q → q ≤ 9 → tInTray T m → Q (some (xI (tBits (tThrow T m (nI q)) (nI 10) (nI 10) mb))) Y G (va_up (cKp N nx mn) 3 (tThrow T m (nI q)))) : V RX6 false cX6_again 3 (some .int) none (d + 3) b 0 [some (xR 0 0), some (xI a), some (xI z)] [] Y G N Q := by
  refine V_ald0 dX6_again_0 ?_
  refine V_ild1 dX6_again_1 ?_
  refine V_iv1 dX6_again_2 wlX6_180 mdX6_noMarble miX6_noMarble rfl (hS.r0.1 0 (0, 6) rfl) rfl rfl (kX6_noMarble hS hN3 hc ⟨rfl, ?_⟩)
  refine V_ifneB (tgt := 19) dX6_again_5 (by decide) (fun c5 => ?_) (fun c5 => ?_)
  · skip
    refine V_ldc dX6_again_19 wkX6_69 ?_
    refine V_ireturn dX6_again_21 ⟨_, rfl, vp_nar_int _⟩ ?_
    exact hB (fun h => c5 h.1)
  · replace c5 := Classical.not_not.mp c5
    refine V_ild2 dX6_again_8 ?_
    refine V_iconst (v := nI 1) dX6_again_9 (by decide) ?_
    refine V_icmplt (tgt := 19) dX6_again_10 (by decide) (fun c10 => ?_) (fun c10 => ?_)
    · skip
      refine V_ldc dX6_again_19 wkX6_69 ?_
      refine V_ireturn dX6_again_21 ⟨_, rfl, vp_nar_int _⟩ ?_
      exact hB (fun h => h.2.1 c10)
    · skip
      refine V_ild2 dX6_again_13 ?_
      refine V_bipush (v := nI 9) dX6_again_14 (by decide) ?_
      refine V_icmple (tgt := 22) dX6_again_16 (by decide) (fun c16 => ?_) (fun c16 => ?_)
      · skip
        obtain ⟨m, hmm, rfl⟩ := rIn_m c5 (by have := hc.b6; omega)
        have hb := hc.b6
        have hk := hc.okm hmm
        obtain ⟨q, hq0, hq1, rfl⟩ := rIn_k (lo := 1) (hi := 9) ⟨c10, Int32.not_lt.mpr c16⟩ (by decide) (by decide)
        refine V_ald0 dX6_again_22 ?_
        refine V_getR dX6_again_23 flX6_26 (hS.r0.1 0 (0, 6) rfl) (hS.r0.2 2 (3, 0) rfl) ?_
        refine V_ild1 dX6_again_26 ?_
        refine V_iv1 dX6_again_27 wlX6_183 mdX5_isInTray miX5_isInTray rfl ((hS.tr 3 rfl).1 0 (0, 5) rfl) rfl rfl (kX5_isInTrayN (hS.tr 3 rfl) hN3 (by omega) ⟨rfl, ?_⟩)
        refine V_ifneB (tgt := 36) dX6_again_30 (by decide) (fun c30 => ?_) (fun c30 => ?_)
        · skip
          refine V_ald0 dX6_again_36 ?_
          refine V_getR dX6_again_37 flX6_36 (hS.r0.1 0 (0, 6) rfl) (hS.r0.2 4 (5, 0) rfl) ?_
          refine V_ald0 dX6_again_40 ?_
          refine V_getR dX6_again_41 flX6_26 (hS.r0.1 0 (0, 6) rfl) (hS.r0.2 2 (3, 0) rfl) ?_
          refine V_iv1 dX6_again_44 wlX6_151 mdX0_keep miX0_keep rfl (hS.r5.1 0 (0, 0) rfl) rfl rfl (kX0_keep hS rfl hnx hn hmn hm (hS.tr 3 rfl) (by omega) ⟨rfl, ?_⟩)
          refine V_eqN (N' := cKp N nx mn) rfl ?_
          refine V_ald0 dX6_again_47 ?_
          refine V_getR dX6_again_48 flX6_26 (hS.r0.1 0 (0, 6) rfl) (hS.r0.2 2 (3, 0) rfl) ?_
          refine V_ild1 dX6_again_51 ?_
          refine V_ild2 dX6_again_52 ?_
          refine V_in1 3 ?_
          refine V_iv2 dX6_again_53 wlX6_186 mdX5_throwAnew miX5_throwAnew rfl ((hS.tr 3 rfl).1 0 (0, 5) rfl) rfl rfl (kX5_throwAnew (hS.tr 3 rfl) (by omega) ⟨rfl, ?_⟩)
          rw [cKp_no N mn (r := 3) (by decide) (by omega), hN3]
          refine V_ald0 dX6_again_56 ?_
          refine V_getR dX6_again_57 flX6_26 (hS.r0.1 0 (0, 6) rfl) (hS.r0.2 2 (3, 0) rfl) ?_
          refine V_bipush (v := nI 10) dX6_again_60 (by decide) ?_
          refine V_iv1 dX6_again_62 wlX6_157 mdX5_bitsAt miX5_bitsAt rfl ((hS.tr 3 rfl).1 0 (0, 5) rfl) rfl rfl (kX5_bitsAt (hS.tr 3 rfl) (hk.throw hmm c30 (nI q)).e2 hk.mb ⟨rfl, ?_⟩)
          refine V_ireturn dX6_again_65 ⟨_, rfl, vp_nar_int _⟩ ?_
          exact hO m q rfl hmm rfl hq0 hq1 c30
        · skip
          refine V_ldc dX6_again_33 wkX6_143 ?_
          refine V_ireturn dX6_again_35 ⟨_, rfl, vp_nar_int _⟩ ?_
          exact hT m q rfl hmm rfl hq0 hq1 c30
      · skip
        refine V_ldc dX6_again_19 wkX6_69 ?_
        refine V_ireturn dX6_again_21 ⟨_, rfl, vp_nar_int _⟩ ?_
        exact hB (fun h => h.2.2 (Int32.not_le.mp c16))
end K6
