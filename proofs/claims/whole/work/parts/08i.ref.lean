theorem xGcd {a b : Nat} (hb : b ≠ 0) : Nat.gcd a b = Nat.gcd b (a % b) := by
  rw [Nat.gcd_comm a b, Nat.gcd_rec b a, Nat.gcd_comm]
def csR (p pn s : Nat) : Nat → Nat
  | 0 => 1
  | i + 1 => csR p pn s i * (if s / 2 ^ i % 2 = 1 then p else 10 - p)
def jamA (cs : Nat → Nat) : Nat → Nat
  | 0 => 0
  | i + 1 => jamA cs i + cs i
def aJam (u a : Nat) (y : Int32) : Int64 := if y = 0 then lN (u / Nat.gcd u a) else lN (a / Nat.gcd u a)
theorem jamN_le (cs : Nat → Nat) (pv : Nat → Bool) : ∀ n, jamN cs pv n ≤ jamA cs n
  | 0 => Nat.le_refl _
  | n + 1 => by
    have := jamN_le cs pv n
    rw [jamN, jamA]
    split <;> omega
theorem csR_le {p pn s : Nat} (hp : p ≤ 10) : ∀ i, csR p pn s i ≤ 10 ^ i
  | 0 => Nat.le_refl _
  | i + 1 => by
    rw [csR, Nat.pow_succ]
    exact Nat.mul_le_mul (csR_le hp i) (by split <;> omega)
theorem jamA_le {cs : Nat → Nat} {M : Nat} (h : ∀ i, cs i ≤ M) : ∀ n, jamA cs n ≤ n * M
  | 0 => by rw [jamA]; omega
  | n + 1 => by
    have := jamA_le h n
    have := h n
    rw [jamA, Nat.succ_mul]; omega
section KM
variable {d : Nat} {b : Nat × Nat} {Y : xY} {G : xG} {N : xM} {S : xT} {f : Nat → Int32} {Q : Option xAV → xY → xG → xM → Prop} {c : Nat}
theorem kX7_weights (hM : xMo Y G) {mb pn : Nat} (hr : rSt S mb pn) (hsz : szOK (S 2)) {a y w x z v : Int32} {pv : Nat → Bool} (hv0 : ∀ p r j n, a = nI p → p < mb → w = nI r → r < 8 → x = nI j → j + n ≤ 40 → z = nI n → y = 0 → ∀ k, 1 ≤ k → k < 10 → ∀ o so f, oEq o (S 0) → (∀ q, so q = S 11 q) → ag f (S 13) → ∀ it, it = S 3 → rSo o so mb it n (40 * r + j) (upd f (55 + p) (nI k)) true = pv k) (hv1 : ∀ p r j n, a = nI p → p < mb → w = nI r → r < 8 → x = nI j → j + n ≤ 40 → z = nI n → ¬ y = 0 → ∀ k, 1 ≤ k → k < 10 → ∀ o so f, oEq o (upd (S 0) 7 (nI k)) → (∀ q, so q = S 11 q) → ag f (S 13) → ∀ it, it = S 3 → rSo o so mb it n (40 * r + j) f true = pv k) (hw : v = fitS pv 1 9) (hQ : ∀ S2, rKeep (if rIn a (nI 0) (nI mb - nI 1) ∧ rIn y (nI 0) (nI 1) ∧ rIn w (nI 0) (nI 7) ∧ rIn z (nI 1) (nI 12) then rFound S (fnd (S 2) w x z) else S) S2 → Q (some (xI (if rIn a (nI 0) (nI mb - nI 1) ∧ rIn y (nI 0) (nI 1) ∧ rIn w (nI 0) (nI 7) ∧ rIn z (nI 1) (nI 12) then (if fnd (S 2) w x z = 0 then v else -1000010 - fnd (S 2) w x z) else -1000001))) Y G (va_up N 40 S2)) : V RX7 false cX7_weights 10 (some .int) none (d + 5) b 0 [some (xR 40 0), some (xI a), some (xI y), some (xI w), some (xI x), some (xI z), none, none, none, none] [] Y G (va_up N 40 S) Q := by
  refine V_ald0 dX7_weights_0 ?_
  refine V_ild1 dX7_weights_1 ?_
  refine V_iv1 dX7_weights_2 wlX7_192 mdX7_isMarble miX7_isMarble rfl (hM.1 0 (0, 7) rfl) rfl rfl (kX7_isMarble hM ⟨rfl, ?_⟩)
  rw [hr.1]
  refine V_ifeqB (tgt := 36) dX7_weights_5 (by decide) (fun c5 => ?_) (fun c5 => ?_)
  · skip
    refine V_ldc dX7_weights_36 wkX7_84 ?_
    refine V_ireturn dX7_weights_38 ⟨_, rfl, vp_nar_int _⟩ ?_
    have hq := hQ S (by rw [if_neg (fun h => c5 h.1)]; exact rKeep.rf S)
    rw [if_neg (fun h => c5 h.1)] at hq
    exact hq
  · skip
    refine V_ild2 dX7_weights_8 ?_
    refine V_iconst (v := nI 0) dX7_weights_9 (by decide) ?_
    refine V_iconst (v := nI 1) dX7_weights_10 (by decide) ?_
    refine V_is3 dX7_weights_11 wlX7_70 mdX7_in msX7_in rfl rfl (kX7_in ⟨rfl, ?_⟩)
    refine V_ifeqB (tgt := 36) dX7_weights_14 (by decide) (fun c14 => ?_) (fun c14 => ?_)
    · skip
      refine V_ldc dX7_weights_36 wkX7_84 ?_
      refine V_ireturn dX7_weights_38 ⟨_, rfl, vp_nar_int _⟩ ?_
      have hq := hQ S (by rw [if_neg (fun h => c14 h.2.1)]; exact rKeep.rf S)
      rw [if_neg (fun h => c14 h.2.1)] at hq
      exact hq
    · skip
      refine V_ald0 dX7_weights_17 ?_
      refine V_ild3 dX7_weights_18 ?_
      refine V_iv1 dX7_weights_19 wlX7_80 mdX7_isRow miX7_isRow rfl (hM.1 0 (0, 7) rfl) rfl rfl (kX7_isRow ⟨rfl, ?_⟩)
      refine V_ifeqB (tgt := 36) dX7_weights_22 (by decide) (fun c22 => ?_) (fun c22 => ?_)
      · skip
        refine V_ldc dX7_weights_36 wkX7_84 ?_
        refine V_ireturn dX7_weights_38 ⟨_, rfl, vp_nar_int _⟩ ?_
        have hq := hQ S (by rw [if_neg (fun h => c22 h.2.2.1)]; exact rKeep.rf S)
        rw [if_neg (fun h => c22 h.2.2.1)] at hq
        exact hq
      · skip
        refine V_ild5 dX7_weights_25 ?_
        refine V_iconst (v := nI 1) dX7_weights_27 (by decide) ?_
        refine V_bipush (v := nI 12) dX7_weights_28 (by decide) ?_
        refine V_is3 dX7_weights_30 wlX7_70 mdX7_in msX7_in rfl rfl (kX7_in ⟨rfl, ?_⟩)
        refine V_ifneB (tgt := 39) dX7_weights_33 (by decide) (fun c33 => ?_) (fun c33 => ?_)
        · skip
          rw [if_pos ⟨c5, c14, c22, c33⟩, if_pos ⟨c5, c14, c22, c33⟩] at hQ
          obtain ⟨p, hp, rfl⟩ := rIn_m c5 (by have := hr.b6; omega)
          obtain ⟨r, hr0, hr8, rfl⟩ := rIn_k c22 (by decide) (by decide)
          obtain ⟨n, hn0, hn1, rfl⟩ := rIn_k c33 (by decide) (by decide)
          have hk := hr.okm hp
          have hmb := hk.mb
          have hpn := hk.pn
          unfold fnd at hQ
          rw [nI_clamp (by omega)] at hQ
          refine V_ald0 dX7_weights_39 ?_
          refine V_ild3 dX7_weights_40 ?_
          refine V_ild4 dX7_weights_41 ?_
          refine V_ild5 dX7_weights_43 ?_
          refine V_iv3 dX7_weights_45 wlX7_233 mdX7_refuses miX7_refuses rfl (hM.1 0 (0, 7) rfl) rfl rfl (kX7_refuses hM (by omega) (fun q1 => ⟨rfl, ?_⟩) (fun q1 q2 => ⟨rfl, ?_⟩) (fun q1 q2 => ⟨rfl, ?_⟩))
          · skip
            rw [if_pos q1] at hQ
            refine V_ist6 dX7_weights_48 rfl ?_
            refine V_ild6 dX7_weights_50 ?_
            refine V_ifeq (tgt := 58) dX7_weights_52 (by decide) (fun c52 => ?_) (fun c52 => ?_)
            · exact absurd c52 (by decide)
            · skip
              refine V_ild6 dX7_weights_55 ?_
              refine V_ireturn dX7_weights_57 ⟨_, rfl, vp_nar_int _⟩ ?_
              rw [if_neg (by decide)] at hQ
              exact hQ _ (rKeep.rf _)
          · skip
            rw [if_neg q1, if_neg q2] at hQ
            refine V_ist6 dX7_weights_48 rfl ?_
            refine V_ild6 dX7_weights_50 ?_
            refine V_ifeq (tgt := 58) dX7_weights_52 (by decide) (fun c52 => ?_) (fun c52 => ?_)
            · exact absurd c52 (by decide)
            · skip
              refine V_ild6 dX7_weights_55 ?_
              refine V_ireturn dX7_weights_57 ⟨_, rfl, vp_nar_int _⟩ ?_
              rw [if_neg (by decide)] at hQ
              exact hQ _ (rKeep.rf _)
          · skip
            rw [if_neg q1, if_pos q2, if_pos rfl] at hQ
            obtain ⟨jj, rfl, hjn, hge, hjg⟩ := part_nat hsz (by omega) (by omega) q1 q2
            refine V_ist6 dX7_weights_48 rfl ?_
            refine V_ild6 dX7_weights_50 ?_
            refine V_ifeq (tgt := 58) dX7_weights_52 (by decide) (fun _ => ?_) (fun c52 => absurd rfl c52)
            obtain ⟨S1, hS1⟩ : ∃ S1, S1 = rFound S 0 := ⟨_, rfl⟩
            rw [← hS1] at hQ ⊢
            have b0 : oEq (S1 0) (S 0) := by rw [hS1]; exact oEq.fnd _ _
            have b11 : S1 11 = S 11 := by rw [hS1]; rfl
            have b13 : S1 13 = S 13 := by rw [hS1]; rfl
            have b3 : S1 3 = S 3 := by rw [hS1]; rfl
            have hk1 : rOK (S1 0) (S1 11) mb pn (S1 13) := by rw [b11, b13]; exact hk.oeq b0
            by_cases cw : y = 0
            · skip
              refine V_ald0 dX7_weights_58 ?_
              refine V_getIr dX7_weights_59 flX7_152 (hM.1 0 (0, 7) rfl) ?_
              refine V_ist7 dX7_weights_62 rfl ?_
              refine V_iconst (v := nI 0) dX7_weights_64 (by decide) ?_
              refine V_ist8 dX7_weights_65 rfl ?_
              refine V_iconst (v := nI 1) dX7_weights_67 (by decide) ?_
              refine V_ist9 dX7_weights_68 rfl ?_
              refine xDown (P := fun i => ∀ S2, S2 0 = S1 0 → (∀ c, c ≠ 0 → c ≠ 19 → S2 c = S1 c) → V RX7 false cX7_weights 10 (some .int) none (d + 5) b 70 [some (xR 40 0), some (xI (nI p)), some (xI y), some (xI (nI r)), some (xI (nI jj)), some (xI (nI n)), some (xI 0), some (xI (S1 0 7)), some (xI (fitS pv 1 i)), some (xI (nI (1 + i)))] [] Y G (va_up N 40 S2) Q) 9 ?_ 0 (Nat.zero_le _) S1 rfl (fun _ _ _ => rfl)
              intro i hii hni S2 e0 ec
              refine V_ild9 dX7_weights_70 ?_
              refine V_bipush (v := nI 10) dX7_weights_72 (by decide) ?_
              refine V_icmpgeN (tgt := 140) dX7_weights_74 (by decide) (by omega) (by omega) (fun c74 => ?_) (fun c74 => ?_)
              · skip
                refine V_ald0 dX7_weights_140 ?_
                refine V_ild7 dX7_weights_141 ?_
                refine V_putIr dX7_weights_143 fwX7_152 (hM.1 0 (0, 7) rfl) ?_
                refine V_ild8 dX7_weights_146 ?_
                refine V_ireturn dX7_weights_148 ⟨_, rfl, vp_nar_int _⟩ ?_
                have hq := hQ (va_up S2 0 (upd (S2 0) 7 (S1 0 7))) ⟨fun c a1 a2 a3 a4 a5 a6 a7 a8 => by rw [va_up_no _ _ a1]; exact ec c a1 a3, fun k hk => by rw [va_up_eq, e0, upd_me]⟩
                rw [hw] at hq
                rw [show i = 9 by omega]
                exact hq
              · skip
                have hk2 : rOK (S2 0) (S2 11) mb pn (S2 13) := by rw [e0, ec 11 (by decide) (by decide), ec 13 (by decide) (by decide)]; exact hk1
                refine V_ald0 dX7_weights_77 ?_
                refine V_iv0 dX7_weights_78 wlX7_202 mdX7_asItIs miX7_asItIs rfl (hM.1 0 (0, 7) rfl) rfl rfl (kX7_asItIs hM (fun f hf => ⟨rfl, ?_⟩))
                refine V_ild2 dX7_weights_81 ?_
                refine V_ifne (tgt := 99) dX7_weights_82 (by decide) (fun c82 => ?_) (fun c82 => ?_)
                · exact absurd cw c82
                · skip
                  refine V_ald0 dX7_weights_85 ?_
                  refine V_getR dX7_weights_86 flX7_41 (hM.1 0 (0, 7) rfl) (show G 40 0 18 = some (40, 19) from hM.2 18 (1, 67) rfl) ?_
                  refine V_bipush (v := nI 55) dX7_weights_89 (by decide) ?_
                  refine V_ild1 dX7_weights_91 ?_
                  refine V_iaddN dX7_weights_92 ?_
                  refine V_ild9 dX7_weights_93 ?_
                  refine V_iasr dX7_weights_95 (hM.1 19 (1, 67) rfl) (by omega) (by decide) ?_
                  refine V_uu ?_
                  refine V_goto (tgt := 105) dX7_weights_96 (by decide) ?_
                  refine V_ild8 dX7_weights_105 ?_
                  refine V_ald0 dX7_weights_107 ?_
                  refine V_bipush (v := nI 40) dX7_weights_108 (by decide) ?_
                  refine V_ild3 dX7_weights_110 ?_
                  refine V_imulN dX7_weights_111 ?_
                  refine V_ild4 dX7_weights_112 ?_
                  refine V_iaddN dX7_weights_114 ?_
                  refine V_ild5 dX7_weights_115 ?_
                  refine V_iv2 dX7_weights_117 wlX7_237 mdX7_isSo miX7_isSo rfl (hM.1 0 (0, 7) rfl) rfl rfl (kX7_isSo hM (rOK.wt (hk2.ag hf) (m := p) hp (nI (1 + i))) (a := 40 * r + jj) (n := n) (by omega) (fun f2 => ⟨rfl, ?_⟩))
                  rw [show rSo _ _ mb _ n (40 * r + jj) _ true = pv (1 + i) from hv0 p r jj n rfl hp rfl (by omega) rfl hjn rfl cw (1 + i) (by omega) (by omega) _ _ f (by rw [e0]; exact b0) (fun q => by rw [ec 11 (by decide) (by decide), b11]) (fun j hj => (hf j hj).trans (by rw [ec 13 (by decide) (by decide), b13])) _ (by rw [ec 3 (by decide) (by decide)]; exact b3)]
                  refine V_ifeqB (tgt := 130) dX7_weights_120 (by decide) (fun c120 => ?_) (fun c120 => ?_)
                  · skip
                    refine V_iconst (v := nI 0) dX7_weights_130 (by decide) ?_
                    refine V_ior dX7_weights_131 ?_
                    refine V_ist8 dX7_weights_132 rfl ?_
                    refine V_incN9 dX7_weights_134 rfl ?_
                    refine V_goto (tgt := 70) dX7_weights_137 (by decide) ?_
                    have hq := fun S4 => hni (by omega) S4
                    rw [fitS, if_neg c120] at hq
                    exact hq _ (by rw [va_up_no _ _ (by decide)]; exact e0) (fun c h1 h2 => by rw [va_up_no _ _ h2]; exact ec c h1 h2)
                  · skip
                    refine V_iconst (v := nI 1) dX7_weights_123 (by decide) ?_
                    refine V_ild9 dX7_weights_124 ?_
                    refine V_ishl dX7_weights_126 ?_
                    refine V_goto (tgt := 131) dX7_weights_127 (by decide) ?_
                    refine V_ior dX7_weights_131 ?_
                    refine V_ist8 dX7_weights_132 rfl ?_
                    refine V_incN9 dX7_weights_134 rfl ?_
                    refine V_goto (tgt := 70) dX7_weights_137 (by decide) ?_
                    have hq := fun S4 => hni (by omega) S4
                    rw [fitS, if_pos c120] at hq
                    exact hq _ (by rw [va_up_no _ _ (by decide)]; exact e0) (fun c h1 h2 => by rw [va_up_no _ _ h2]; exact ec c h1 h2)
            · skip
              refine V_ald0 dX7_weights_58 ?_
              refine V_getIr dX7_weights_59 flX7_152 (hM.1 0 (0, 7) rfl) ?_
              refine V_ist7 dX7_weights_62 rfl ?_
              refine V_iconst (v := nI 0) dX7_weights_64 (by decide) ?_
              refine V_ist8 dX7_weights_65 rfl ?_
              refine V_iconst (v := nI 1) dX7_weights_67 (by decide) ?_
              refine V_ist9 dX7_weights_68 rfl ?_
              refine xDown (P := fun i => ∀ S2, (∃ q, S2 0 = upd (S1 0) 7 q) → (∀ c, c ≠ 0 → c ≠ 19 → S2 c = S1 c) → V RX7 false cX7_weights 10 (some .int) none (d + 5) b 70 [some (xR 40 0), some (xI (nI p)), some (xI y), some (xI (nI r)), some (xI (nI jj)), some (xI (nI n)), some (xI 0), some (xI (S1 0 7)), some (xI (fitS pv 1 i)), some (xI (nI (1 + i)))] [] Y G (va_up N 40 S2) Q) 9 ?_ 0 (Nat.zero_le _) S1 ⟨_, (upd_me _ _).symm⟩ (fun _ _ _ => rfl)
              intro i hii hni S2 e0 ec
              obtain ⟨q, e0⟩ := e0
              refine V_ild9 dX7_weights_70 ?_
              refine V_bipush (v := nI 10) dX7_weights_72 (by decide) ?_
              refine V_icmpgeN (tgt := 140) dX7_weights_74 (by decide) (by omega) (by omega) (fun c74 => ?_) (fun c74 => ?_)
              · skip
                refine V_ald0 dX7_weights_140 ?_
                refine V_ild7 dX7_weights_141 ?_
                refine V_putIr dX7_weights_143 fwX7_152 (hM.1 0 (0, 7) rfl) ?_
                refine V_ild8 dX7_weights_146 ?_
                refine V_ireturn dX7_weights_148 ⟨_, rfl, vp_nar_int _⟩ ?_
                have hq := hQ (va_up S2 0 (upd (S2 0) 7 (S1 0 7))) ⟨fun c a1 a2 a3 a4 a5 a6 a7 a8 => by rw [va_up_no _ _ a1]; exact ec c a1 a3, fun k hk => by rw [va_up_eq, e0, upd_upd2, upd_me]⟩
                rw [hw] at hq
                rw [show i = 9 by omega]
                exact hq
              · skip
                have hk2 : rOK (S2 0) (S2 11) mb pn (S2 13) := by rw [e0, ec 11 (by decide) (by decide), ec 13 (by decide) (by decide)]; exact hk1.bar q
                refine V_ald0 dX7_weights_77 ?_
                refine V_iv0 dX7_weights_78 wlX7_202 mdX7_asItIs miX7_asItIs rfl (hM.1 0 (0, 7) rfl) rfl rfl (kX7_asItIs hM (fun f hf => ⟨rfl, ?_⟩))
                refine V_ild2 dX7_weights_81 ?_
                refine V_ifne (tgt := 99) dX7_weights_82 (by decide) (fun c82 => ?_) (fun c82 => ?_)
                · skip
                  refine V_ald0 dX7_weights_99 ?_
                  refine V_ild9 dX7_weights_100 ?_
                  refine V_putIr dX7_weights_102 fwX7_152 (hM.1 0 (0, 7) rfl) ?_
                  refine V_cc (by decide) ?_
                  rw [va_up_no _ _ (by decide)]
                  refine V_ild8 dX7_weights_105 ?_
                  refine V_ald0 dX7_weights_107 ?_
                  refine V_bipush (v := nI 40) dX7_weights_108 (by decide) ?_
                  refine V_ild3 dX7_weights_110 ?_
                  refine V_imulN dX7_weights_111 ?_
                  refine V_ild4 dX7_weights_112 ?_
                  refine V_iaddN dX7_weights_114 ?_
                  refine V_ild5 dX7_weights_115 ?_
                  refine V_iv2 dX7_weights_117 wlX7_237 mdX7_isSo miX7_isSo rfl (hM.1 0 (0, 7) rfl) rfl rfl (kX7_isSo hM (rOK.bar (hk2.ag hf) (nI (1 + i))) (a := 40 * r + jj) (n := n) (by omega) (fun f2 => ⟨rfl, ?_⟩))
                  rw [show rSo _ _ mb _ n (40 * r + jj) f true = pv (1 + i) from hv1 p r jj n rfl hp rfl (by omega) rfl hjn rfl cw (1 + i) (by omega) (by omega) _ _ f (by rw [va_up_eq, e0, upd_upd2]; exact ⟨rfl, b0.2⟩) (fun q => by rw [va_up_no _ _ (by decide), ec 11 (by decide) (by decide), b11]) (fun j hj => (hf j hj).trans (by rw [ec 13 (by decide) (by decide), b13])) _ (by rw [va_up_no _ _ (by decide), ec 3 (by decide) (by decide)]; exact b3)]
                  refine V_ifeqB (tgt := 130) dX7_weights_120 (by decide) (fun c120 => ?_) (fun c120 => ?_)
                  · skip
                    refine V_iconst (v := nI 0) dX7_weights_130 (by decide) ?_
                    refine V_ior dX7_weights_131 ?_
                    refine V_ist8 dX7_weights_132 rfl ?_
                    refine V_incN9 dX7_weights_134 rfl ?_
                    refine V_goto (tgt := 70) dX7_weights_137 (by decide) ?_
                    have hq := fun S4 => hni (by omega) S4
                    rw [fitS, if_neg c120] at hq
                    exact hq _ ⟨_, by rw [va_up_no _ _ (by decide), va_up_eq, e0, upd_upd2]⟩ (fun c h1 h2 => by rw [va_up_no _ _ h2, va_up_no _ _ h1]; exact ec c h1 h2)
                  · skip
                    refine V_iconst (v := nI 1) dX7_weights_123 (by decide) ?_
                    refine V_ild9 dX7_weights_124 ?_
                    refine V_ishl dX7_weights_126 ?_
                    refine V_goto (tgt := 131) dX7_weights_127 (by decide) ?_
                    refine V_ior dX7_weights_131 ?_
                    refine V_ist8 dX7_weights_132 rfl ?_
                    refine V_incN9 dX7_weights_134 rfl ?_
                    refine V_goto (tgt := 70) dX7_weights_137 (by decide) ?_
                    have hq := fun S4 => hni (by omega) S4
                    rw [fitS, if_pos c120] at hq
                    exact hq _ ⟨_, by rw [va_up_no _ _ (by decide), va_up_eq, e0, upd_upd2]⟩ (fun c h1 h2 => by rw [va_up_no _ _ h2, va_up_no _ _ h1]; exact ec c h1 h2)
                · exact absurd c82 cw
        · skip
          refine V_ldc dX7_weights_36 wkX7_84 ?_
          refine V_ireturn dX7_weights_38 ⟨_, rfl, vp_nar_int _⟩ ?_
          have hq := hQ S (by rw [if_neg (fun h => c33 h.2.2.2)]; exact rKeep.rf S)
          rw [if_neg (fun h => c33 h.2.2.2)] at hq
          exact hq
theorem kX7_common {a c g : Nat} (ha : a < 2 ^ 62) (hc : c < 2 ^ 62) (hg : Nat.gcd a c = g) (hQ : Q (some (xJ (lN g))) Y G N) : V RX7 false cX7_common 10 (some .long) none d b 0 [some (xJ (lN a)), none, some (xJ (lN c)), none, none, none, none, none, none, none] [] Y G N Q := by
  refine V_lld0 dX7_common_0 ?_
  refine V_lst4 dX7_common_1 rfl ?_
  refine V_lld2 dX7_common_3 ?_
  refine V_lst6 dX7_common_4 rfl ?_
  have lp : ∀ k y x l8 l9, y < k → x < 2 ^ 62 → y < 2 ^ 62 → Nat.gcd x y = g → V RX7 false cX7_common 10 (some .long) none d b 6 [some (xJ (lN a)), none, some (xJ (lN c)), none, some (xJ (lN x)), none, some (xJ (lN y)), none, l8, l9] [] Y G N Q := by
    intro k
    induction k with
    | zero => intro y x l8 l9 hy; exact absurd hy (Nat.not_lt_zero _)
    | succ k ih =>
      intro y x l8 l9 hy hx hy2 hg
      refine V_lld6 dX7_common_6 ?_
      refine V_lconst (v := lN 0) dX7_common_8 (rfl) ?_
      refine V_lcmp dX7_common_9 ?_
      refine V_ifeq (tgt := 31) dX7_common_10 (by decide) (fun c10 => ?_) (fun c10 => ?_)
      · replace c10 : y = 0 := (pk_lEQ (by omega) (by decide)).mp ((lg_cmp_eq _ _).mp c10)
        refine V_lld4 dX7_common_31 ?_
        refine V_lreturn dX7_common_33 rfl ?_
        rw [c10, Nat.gcd_zero_right] at hg
        rw [hg]
        exact hQ
      · replace c10 : ¬ y = 0 := fun e => c10 ((lg_cmp_eq _ _).mpr (by rw [e]))
        refine V_lld4 dX7_common_13 ?_
        refine V_lld6 dX7_common_15 ?_
        refine V_lrem dX7_common_17 (fun e => c10 ((pk_lEQ (by omega) (by decide)).mp (show lN y = lN 0 from e))) ?_
        rw [pk_lRem (by omega) (by omega) (by omega)]
        refine V_lst8 dX7_common_18 rfl ?_
        refine V_lld6 dX7_common_20 ?_
        refine V_lst4 dX7_common_22 rfl ?_
        refine V_lld8 dX7_common_24 ?_
        refine V_lst6 dX7_common_26 rfl ?_
        refine V_goto (tgt := 6) dX7_common_28 (by decide) ?_
        have hm := Nat.mod_lt x (show 0 < y by omega)
        exact ih _ _ _ _ (by omega) hy2 (by omega) (by rw [← hg, xGcd c10])
  exact lp (c + 1) c a none none (by omega) ha hc hg
end KM
