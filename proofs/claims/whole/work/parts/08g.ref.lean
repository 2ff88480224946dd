/-- whether the row tells the trays, tick by tick -/
def rSo (o so : Nat → Int32) (mb : Nat) (it : Nat → Int32) : Nat → Nat → (Nat → Int32) → Bool → Bool
  | 0, _, _, is => is
  | k + 1, j, f, is => rSo o so mb it k (j + 1) (rTick o so mb f) (is && decide (rBits (rThose (rTick o so mb f) (nI 8) (nI 8) mb) 8 + nI 10 * rBits (rThose (rTick o so mb f) (nI 9) (nI 9) mb) 8 = it j))
section KM
variable {d : Nat} {b : Nat × Nat} {Y : xY} {G : xG} {N : xM} {S : xT} {f : Nat → Int32} {Q : Option xAV → xY → xG → xM → Prop} {c : Nat}
theorem kX7_byTurns (hM : xMo Y G) {mb pn : Nat} (hr : rSt S mb pn) {z y v : Int32} {W : Nat → Int32} (hv : ∀ m, y = nI m → m ≤ 20 → 1 ≤ mb → rOK (S 0) (S 11) mb pn (S 13) → ∀ k, k < 2 ^ pn → ∀ f, ag f (S 13) → rBits (rThose (rGo (S 0) (S 11) mb m (rTipN f (nI k) pn)) (nI 9) (nI 9) mb) 8 - rBits (rThose (rGo (S 0) (S 11) mb m (rTipN f (nI k) pn)) (nI 8) (nI 8) mb) 8 = W k) (hv2 : ∀ n, z = nI n → n ≤ 4 → tU pn W n n 0 = v) (hQ : ∀ S2, rKeep S S2 → Q (some (xI (if nI pn = 0 then -1000002 else if rIn z (nI 0) (nI 4) ∧ rIn y (nI 1) (nI 20) then v else -1000001))) Y G (va_up N 40 S2)) : V RX7 false cX7_byTurns 5 (some .int) none (d + 4) b 0 [some (xR 40 0), some (xI z), some (xI y), none, none] [] Y G (va_up N 40 S) Q := by
  refine V_ald0 dX7_byTurns_0 ?_
  refine V_iv0 dX7_byTurns_1 wlX7_174 mdX7_isNone miX7_isNone rfl (hM.1 0 (0, 7) rfl) rfl rfl (kX7_isNone hM ⟨rfl, ?_⟩)
  rw [hr.2.1]
  refine V_ifeqB (tgt := 10) dX7_byTurns_4 (by decide) (fun c4 => ?_) (fun c4 => ?_)
  · skip
    refine V_ild1 dX7_byTurns_10 ?_
    refine V_iconst (v := nI 0) dX7_byTurns_11 (by decide) ?_
    refine V_iconst (v := nI 4) dX7_byTurns_12 (by decide) ?_
    refine V_is3 dX7_byTurns_13 wlX7_70 mdX7_in msX7_in rfl rfl (kX7_in ⟨rfl, ?_⟩)
    refine V_ifeqB (tgt := 29) dX7_byTurns_16 (by decide) (fun c16 => ?_) (fun c16 => ?_)
    · skip
      refine V_ldc dX7_byTurns_29 wkX7_84 ?_
      refine V_ireturn dX7_byTurns_31 ⟨_, rfl, vp_nar_int _⟩ ?_
      have hq := hQ S (rKeep.rf S)
      rw [if_neg c4, if_neg (fun h => c16 h.1)] at hq
      exact hq
    · skip
      refine V_ild2 dX7_byTurns_19 ?_
      refine V_iconst (v := nI 1) dX7_byTurns_20 (by decide) ?_
      refine V_bipush (v := nI 20) dX7_byTurns_21 (by decide) ?_
      refine V_is3 dX7_byTurns_23 wlX7_70 mdX7_in msX7_in rfl rfl (kX7_in ⟨rfl, ?_⟩)
      refine V_ifneB (tgt := 32) dX7_byTurns_26 (by decide) (fun c26 => ?_) (fun c26 => ?_)
      · skip
        obtain ⟨n, hn0, hn1, rfl⟩ := rIn_k c16 (by decide) (by decide)
        obtain ⟨m, hm0, hm1, rfl⟩ := rIn_k c26 (by decide) (by decide)
        obtain ⟨hmb1, hk⟩ := hr.ok0 c4
        have hpn := hk.pn
        have hK2 : 2 ^ pn ≤ 256 := Nat.pow_le_pow_right (n := 2) (by decide) hpn
        obtain ⟨K, hK⟩ : ∃ K, K = 2 ^ pn := ⟨_, rfl⟩
        have hK0 : 0 < K := by rw [hK]; exact Nat.two_pow_pos _
        have hX : ∀ s, s < K → ∀ p, p < pn → s ^^^ 2 ^ p < K := fun s hs p hp => by
          rw [hK] at hs ⊢
          exact Nat.xor_lt_two_pow hs (Nat.pow_lt_pow_right (by decide) hp)
        rw [← hK] at hK2
        have hv := hv m rfl hm1 hmb1 hk
        rw [← hK] at hv
        refine V_iconst (v := nI 0) dX7_byTurns_32 (by decide) ?_
        refine V_ist3 dX7_byTurns_33 rfl ?_
        refine xDown (P := fun i => ∀ S2, S2 0 = S 0 → S2 11 = S 11 → S2 13 = S 13 → rKeep S S2 → rOK (S2 0) (S2 11) mb pn (S2 13) → (∀ s, s < i → S2 31 s = W s) → V RX7 false cX7_byTurns 5 (some .int) none (d + 4) b 34 [some (xR 40 0), some (xI (nI n)), some (xI (nI m)), some (xI (nI i)), none] [] Y G (va_up N 40 S2) Q) K ?_ 0 (Nat.zero_le _) S rfl rfl rfl (rKeep.rf S) hk (fun s hs => absurd hs (by omega)) 
        intro i hii hni S2 e0 e11 e13 hkeep hk2 hU
        refine V_ild3 dX7_byTurns_34 ?_
        refine V_iconst (v := nI 1) dX7_byTurns_35 (by decide) ?_
        refine V_ald0 dX7_byTurns_36 ?_
        refine V_getIr dX7_byTurns_37 flX7_77 (hM.1 0 (0, 7) rfl) ?_
        refine V_eqI hk2.e9 ?_
        refine V_ishl dX7_byTurns_40 ?_
        rw [nI_1shl (by omega), ← hK]
        refine V_icmpgeN (tgt := 85) dX7_byTurns_41 (by decide) (by omega) (by omega) (fun c41 => ?_) (fun c41 => ?_)
        · skip
          rw [show i = K by omega] at hU
          refine V_ild1 dX7_byTurns_85 ?_
          refine V_iconst (v := nI 1) dX7_byTurns_86 (by decide) ?_
          refine V_isub dX7_byTurns_87 ?_
          refine V_ist3 dX7_byTurns_88 rfl ?_
          rw [show nI n - nI 1 = (if 0 = n then -1 else nI (n - 1 - 0)) by
            by_cases h : 0 = n
            · rw [if_pos h, ← h]; decide
            · rw [if_neg h, pk_sub (by omega)]; rfl]
          refine xDown (P := fun j => ∀ S2 l4, S2 0 = S 0 → S2 11 = S 11 → S2 13 = S 13 → rKeep S S2 → rOK (S2 0) (S2 11) mb pn (S2 13) → (∀ s, s < K → S2 31 s = tU pn W n j s) → V RX7 false cX7_byTurns 5 (some .int) none (d + 4) b 89 [some (xR 40 0), some (xI (nI n)), some (xI (nI m)), some (xI (if j = n then -1 else nI (n - 1 - j))), l4] [] Y G (va_up N 40 S2) Q) n ?_ 0 (Nat.zero_le _) _ none e0 e11 e13 hkeep hk2 hU
          intro j hij hnj S2 l4 e0 e11 e13 hkeep hk2 hU
          by_cases e : j = n
          · rw [if_pos e]
            refine V_ild3 dX7_byTurns_89 ?_
            refine V_iflt (tgt := 159) dX7_byTurns_90 (by decide) (fun c90 => ?_) (fun c90 => ?_)
            · skip
              refine V_ald0 dX7_byTurns_159 ?_
              refine V_getR dX7_byTurns_160 flX7_56 (hM.1 0 (0, 7) rfl) (show G 40 0 30 = some (40, 31) from hM.2 30 (1, 256) rfl) ?_
              refine V_iconst (v := nI 0) dX7_byTurns_163 (by decide) ?_
              refine V_iar dX7_byTurns_164 (hM.1 31 (1, 256) rfl) (by decide) (by decide) ?_
              refine V_ireturn dX7_byTurns_165 ⟨_, rfl, vp_nar_int _⟩ ?_
              have hq := hQ _ hkeep
              rw [if_neg c4, if_pos ⟨c16, c26⟩, ← hv2 n rfl hn1] at hq
              rw [hU 0 hK0, e]
              exact hq
            · exact absurd (show (-1 : Int32) < 0 by decide) c90
          · rw [if_neg e]
            refine V_ild3 dX7_byTurns_89 ?_
            refine V_iflt (tgt := 159) dX7_byTurns_90 (by decide) (fun c90 => ?_) (fun c90 => ?_)
            · exact absurd c90 (nI_pos (by omega))
            · skip
              refine V_iconst (v := nI 0) dX7_byTurns_93 (by decide) ?_
              refine V_ist4 dX7_byTurns_94 rfl ?_
              refine xDown (P := fun i => ∀ S2, S2 0 = S 0 → S2 11 = S 11 → S2 13 = S 13 → rKeep S S2 → rOK (S2 0) (S2 11) mb pn (S2 13) → (∀ s, s < K → S2 31 s = tU pn W n j s) → (∀ s, s < i → S2 32 s = tU pn W n (j + 1) s) → V RX7 false cX7_byTurns 5 (some .int) none (d + 4) b 96 [some (xR 40 0), some (xI (nI n)), some (xI (nI m)), some (xI (nI (n - 1 - j))), some (xI (nI i))] [] Y G (va_up N 40 S2) Q) K ?_ 0 (Nat.zero_le _) _ e0 e11 e13 hkeep hk2 hU (fun s hs => absurd hs (by omega)) 
              intro i hii hni S2 e0 e11 e13 hkeep hk2 hU hF
              refine V_ild4 dX7_byTurns_96 ?_
              refine V_iconst (v := nI 1) dX7_byTurns_98 (by decide) ?_
              refine V_ald0 dX7_byTurns_99 ?_
              refine V_getIr dX7_byTurns_100 flX7_77 (hM.1 0 (0, 7) rfl) ?_
              refine V_eqI hk2.e9 ?_
              refine V_ishl dX7_byTurns_103 ?_
              rw [nI_1shl (by omega), ← hK]
              refine V_icmpgeN (tgt := 137) dX7_byTurns_104 (by decide) (by omega) (by omega) (fun c104 => ?_) (fun c104 => ?_)
              · skip
                skip
                refine V_ald0 dX7_byTurns_137 ?_
                refine V_getR dX7_byTurns_138 flX7_59 (hM.1 0 (0, 7) rfl) (show G 40 0 31 = some (40, 32) from hM.2 31 (1, 256) rfl) ?_
                refine V_iconst (v := nI 0) dX7_byTurns_141 (by decide) ?_
                refine V_ald0 dX7_byTurns_142 ?_
                refine V_getR dX7_byTurns_143 flX7_56 (hM.1 0 (0, 7) rfl) (show G 40 0 30 = some (40, 31) from hM.2 30 (1, 256) rfl) ?_
                refine V_iconst (v := nI 0) dX7_byTurns_146 (by decide) ?_
                refine V_sipush (v := nI 256) dX7_byTurns_147 (by decide) ?_
                refine V_sub 40 31 ?_
                refine V_is5 dX7_byTurns_150 wlX7_155 mdX7_bring msX7_bring rfl rfl (kX7_bring (c := 31) (a := 32) (by decide) (hM.1 32 (1, 256) rfl) (hM.1 31 (1, 256) rfl) (by decide) (by decide) (by decide) (by decide) ⟨rfl, ?_⟩)
                refine V_inc3 dX7_byTurns_153 rfl rfl ?_
                refine V_goto (tgt := 89) dX7_byTurns_156 (by decide) ?_
                rw [show nI (n - 1 - j) + Int32.ofInt (-1) = (if j + 1 = n then -1 else nI (n - 1 - (j + 1))) by
                  by_cases h : j + 1 = n
                  · rw [if_pos h, show n - 1 - j = 0 by omega]; decide
                  · rw [if_neg h, show n - 1 - j = n - 1 - (j + 1) + 1 by omega]; exact pk_m1 _]
                refine hnj (by omega) _ _ (by rw [va_up_no _ _ (by decide)]; exact e0) (by rw [va_up_no _ _ (by decide)]; exact e11) (by rw [va_up_no _ _ (by decide)]; exact e13) (hkeep.tr (rKeep.up (by omega) _)) hk2 (fun s hs => ?_)
                rw [va_up_eq, rBring_at, if_pos ⟨Nat.zero_le _, by omega⟩, show 0 + (s - 0) = s by omega]
                exact hF s (by omega)
              · skip
                refine V_ald0 dX7_byTurns_107 ?_
                refine V_getR dX7_byTurns_108 flX7_59 (hM.1 0 (0, 7) rfl) (show G 40 0 31 = some (40, 32) from hM.2 31 (1, 256) rfl) ?_
                refine V_ild4 dX7_byTurns_111 ?_
                refine V_ald0 dX7_byTurns_113 ?_
                refine V_ild4 dX7_byTurns_114 ?_
                refine V_ild3 dX7_byTurns_116 ?_
                refine V_iconst (v := nI 2) dX7_byTurns_117 (by decide) ?_
                refine V_irem dX7_byTurns_118 (by decide) ?_
                rw [pk_rem (by omega) (by decide) (by decide)]
                refine V_ifne (tgt := 126) dX7_byTurns_119 (by decide) (fun cg => ?_) (fun cg => ?_)
                · replace cg : ((n - 1 - j) % 2 == 0) = false := beq_eq_false_iff_ne.mpr (fun e => cg (by rw [e]; decide))
                  refine V_iconst (v := 0) dX7_byTurns_126 (by decide) ?_
                  refine V_iv2 dX7_byTurns_127 wlX7_229 mdX7_chosen miX7_chosen rfl (hM.1 0 (0, 7) rfl) rfl rfl (kX7_chosen0 hM hk2.e9 hk2.pn hK2 (by omega) hX hU ⟨rfl, ?_⟩)
                  refine V_iasr dX7_byTurns_130 (hM.1 32 (1, 256) rfl) (by omega) (by decide) ?_
                  refine V_incN4 dX7_byTurns_131 rfl ?_
                  refine V_goto (tgt := 96) dX7_byTurns_134 (by decide) ?_
                  exact hni (by omega) _ (by rw [va_up_no _ _ (by decide)]; exact e0) (by rw [va_up_no _ _ (by decide)]; exact e11) (by rw [va_up_no _ _ (by decide)]; exact e13) (hkeep.tr (rKeep.up (by omega) _)) hk2 (fun s hs => by rw [va_up_no _ _ (by decide)]; exact hU s hs) (fun s hs => by
                    rw [va_up_eq]
                    by_cases e : s = i
                    · rw [e, upd_eq, tU, cg]
                    · rw [upd_no _ _ e]; exact hF s (by omega))
                · replace cg : ((n - 1 - j) % 2 == 0) = true := by
                    rcases Nat.mod_two_eq_zero_or_one (n - 1 - j) with e | e
                    · rw [e]; rfl
                    · rw [e] at cg; exact absurd cg (by decide)
                  refine V_iconst (v := 1) dX7_byTurns_122 (by decide) ?_
                  refine V_goto (tgt := 127) dX7_byTurns_123 (by decide) ?_
                  refine V_iv2 dX7_byTurns_127 wlX7_229 mdX7_chosen miX7_chosen rfl (hM.1 0 (0, 7) rfl) rfl rfl (kX7_chosen1 hM hk2.e9 hk2.pn hK2 (by omega) hX hU ⟨rfl, ?_⟩)
                  refine V_iasr dX7_byTurns_130 (hM.1 32 (1, 256) rfl) (by omega) (by decide) ?_
                  refine V_incN4 dX7_byTurns_131 rfl ?_
                  refine V_goto (tgt := 96) dX7_byTurns_134 (by decide) ?_
                  exact hni (by omega) _ (by rw [va_up_no _ _ (by decide)]; exact e0) (by rw [va_up_no _ _ (by decide)]; exact e11) (by rw [va_up_no _ _ (by decide)]; exact e13) (hkeep.tr (rKeep.up (by omega) _)) hk2 (fun s hs => by rw [va_up_no _ _ (by decide)]; exact hU s hs) (fun s hs => by
                    rw [va_up_eq]
                    by_cases e : s = i
                    · rw [e, upd_eq, tU, cg]
                    · rw [upd_no _ _ e]; exact hF s (by omega))
        · skip
          refine V_ald0 dX7_byTurns_44 ?_
          refine V_iv0 dX7_byTurns_45 wlX7_202 mdX7_asItIs miX7_asItIs rfl (hM.1 0 (0, 7) rfl) rfl rfl (kX7_asItIs hM (fun f hf => ⟨rfl, ?_⟩))
          refine V_ald0 dX7_byTurns_48 ?_
          refine V_ild3 dX7_byTurns_49 ?_
          refine V_iv1 dX7_byTurns_50 wlX7_214 mdX7_tipsNow miX7_tipsNow rfl (hM.1 0 (0, 7) rfl) rfl rfl (kX7_tipsNow hM hk2.e9 hk2.pn ⟨rfl, ?_⟩)
          refine V_ald0 dX7_byTurns_53 ?_
          refine V_ild2 dX7_byTurns_54 ?_
          refine V_iv1 dX7_byTurns_55 wlX7_205 mdX7_goes miX7_goes rfl (hM.1 0 (0, 7) rfl) rfl rfl (kX7_goes hM ((hk2.ag hf).tip (nI i)) (by omega) ⟨rfl, ?_⟩)
          refine V_ald0 dX7_byTurns_58 ?_
          refine V_getR dX7_byTurns_59 flX7_56 (hM.1 0 (0, 7) rfl) (show G 40 0 30 = some (40, 31) from hM.2 30 (1, 256) rfl) ?_
          refine V_ild3 dX7_byTurns_62 ?_
          refine V_ald0 dX7_byTurns_63 ?_
          refine V_iv0 dX7_byTurns_64 wlX7_211 mdX7_rightOf miX7_rightOf rfl (hM.1 0 (0, 7) rfl) rfl rfl (kX7_rightOf hM (((hk2.ag hf).tip (nI i)).go m) ⟨rfl, ?_⟩)
          refine V_is1 dX7_byTurns_67 wlX7_217 mdX7_bits msX7_bits rfl rfl (kX7_bits ⟨rfl, ?_⟩)
          refine V_ald0 dX7_byTurns_70 ?_
          refine V_iv0 dX7_byTurns_71 wlX7_208 mdX7_leftOf miX7_leftOf rfl (hM.1 0 (0, 7) rfl) rfl rfl (kX7_leftOf hM (((hk2.ag hf).tip (nI i)).go m) ⟨rfl, ?_⟩)
          refine V_is1 dX7_byTurns_74 wlX7_217 mdX7_bits msX7_bits rfl rfl (kX7_bits ⟨rfl, ?_⟩)
          refine V_isub dX7_byTurns_77 ?_
          rw [show rBits _ 8 - rBits _ 8 = W i by rw [e0, e11]; exact hv i (by omega) f (fun j hj => (hf j hj).trans (by rw [e13]))]
          refine V_iasr dX7_byTurns_78 (hM.1 31 (1, 256) rfl) (by omega) (by decide) ?_
          refine V_incN3 dX7_byTurns_79 rfl ?_
          refine V_goto (tgt := 34) dX7_byTurns_82 (by decide) ?_
          exact hni (by omega) _ (by rw [va_up_no _ _ (by decide), va_up_no _ _ (by decide)]; exact e0) (by rw [va_up_no _ _ (by decide), va_up_no _ _ (by decide)]; exact e11) (by rw [va_up_no _ _ (by decide), va_up_no _ _ (by decide)]; exact e13) ((hkeep.n2 _).tr (rKeep.up (by omega) _)) hk2 (fun s hs => by
            rw [va_up_eq]
            by_cases e : s = i
            · rw [e, upd_eq]
            · rw [upd_no _ _ e, va_up_no _ _ (by decide)]; exact hU s (by omega))
      · skip
        refine V_ldc dX7_byTurns_29 wkX7_84 ?_
        refine V_ireturn dX7_byTurns_31 ⟨_, rfl, vp_nar_int _⟩ ?_
        have hq := hQ S (rKeep.rf S)
        rw [if_neg c4, if_neg (fun h => c26 h.2)] at hq
        exact hq
  · skip
    refine V_ldc dX7_byTurns_7 wkX7_173 ?_
    refine V_ireturn dX7_byTurns_9 ⟨_, rfl, vp_nar_int _⟩ ?_
    have hq := hQ S (rKeep.rf S)
    rw [if_pos c4] at hq
    exact hq
theorem kX7_isSo (hM : xMo Y G) {mb pn : Nat} (hkf : rOK (S 0) (S 11) mb pn f) {a n : Nat} (han : a + n ≤ 320) (hQ : ∀ f2, Q (some (xI (if rSo (S 0) (S 11) mb (S 3) n a f true = true then 1 else 0))) Y G (va_up N 40 (va_up S 19 f2))) : V RX7 false cX7_isSo 5 (some .boolean) none (d + 4) b 0 [some (xR 40 0), some (xI (nI a)), some (xI (nI n)), none, none] [] Y G (va_up N 40 (va_up S 19 f)) Q := by
  refine V_iconst (v := 1) dX7_isSo_0 (by decide) ?_
  refine V_eqI (show (1 : Int32) = (if true = true then 1 else 0) by decide) ?_
  refine V_ist3 dX7_isSo_1 rfl ?_
  refine V_iconst (v := nI 0) dX7_isSo_2 (by decide) ?_
  refine V_ist4 dX7_isSo_3 rfl ?_
  refine xDown (P := fun i => ∀ f is, rOK (S 0) (S 11) mb pn f → (∀ f2, Q (some (xI (if rSo (S 0) (S 11) mb (S 3) (n - i) (a + i) f is = true then 1 else 0))) Y G (va_up N 40 (va_up S 19 f2))) → V RX7 false cX7_isSo 5 (some .boolean) none (d + 4) b 5 [some (xR 40 0), some (xI (nI a)), some (xI (nI n)), some (xI (if is = true then 1 else 0)), some (xI (nI i))] [] Y G (va_up N 40 (va_up S 19 f)) Q) n ?_ 0 (Nat.zero_le _) f true hkf hQ 
  intro i hii hni f is hkf hq
  refine V_ild4 dX7_isSo_5 ?_
  refine V_ild2 dX7_isSo_7 ?_
  refine V_icmpgeN (tgt := 62) dX7_isSo_8 (by decide) (by omega) (by omega) (fun c8 => ?_) (fun c8 => ?_)
  · skip
    refine V_ild3 dX7_isSo_62 ?_
    refine V_ireturn dX7_isSo_63 ⟨_, rfl, xbool (by first | exact Or.inl rfl | exact Or.inr rfl | exact xite01 _)⟩ ?_
    rw [show n - i = 0 by omega, rSo] at hq
    exact hq _
  · skip
    refine V_ald0 dX7_isSo_11 ?_
    refine V_iconst (v := nI 1) dX7_isSo_12 (by decide) ?_
    refine V_iv1 dX7_isSo_13 wlX7_205 mdX7_goes miX7_goes rfl (hM.1 0 (0, 7) rfl) rfl rfl (kX7_goes (n := 1) hM hkf (by decide) ⟨rfl, ?_⟩)
    refine V_ild3 dX7_isSo_16 ?_
    refine V_ifeqB (tgt := 54) dX7_isSo_17 (by decide) (fun c17 => ?_) (fun c17 => ?_)
    · skip
      refine V_iconst (v := 0) dX7_isSo_54 (by decide) ?_
      refine V_ist3 dX7_isSo_55 rfl ?_
      refine V_incN4 dX7_isSo_56 rfl ?_
      refine V_goto (tgt := 5) dX7_isSo_59 (by decide) ?_
      rw [show is = false by cases is with | false => rfl | true => exact absurd rfl c17] at hq
      rw [show n - i = n - (i + 1) + 1 by omega, rSo, Bool.false_and] at hq
      exact hni (by omega) _ false hkf.tick hq
    · skip
      refine V_ald0 dX7_isSo_20 ?_
      refine V_iv0 dX7_isSo_21 wlX7_208 mdX7_leftOf miX7_leftOf rfl (hM.1 0 (0, 7) rfl) rfl rfl (kX7_leftOf hM (hkf.go 1) ⟨rfl, ?_⟩)
      refine V_is1 dX7_isSo_24 wlX7_217 mdX7_bits msX7_bits rfl rfl (kX7_bits ⟨rfl, ?_⟩)
      refine V_bipush (v := nI 10) dX7_isSo_27 (by decide) ?_
      refine V_ald0 dX7_isSo_29 ?_
      refine V_iv0 dX7_isSo_30 wlX7_211 mdX7_rightOf miX7_rightOf rfl (hM.1 0 (0, 7) rfl) rfl rfl (kX7_rightOf hM (hkf.go 1) ⟨rfl, ?_⟩)
      refine V_is1 dX7_isSo_33 wlX7_217 mdX7_bits msX7_bits rfl rfl (kX7_bits ⟨rfl, ?_⟩)
      refine V_imul dX7_isSo_36 ?_
      refine V_iadd dX7_isSo_37 ?_
      refine V_ald0 dX7_isSo_38 ?_
      refine V_getR dX7_isSo_39 flX7_16 (hM.1 0 (0, 7) rfl) (show G 40 0 2 = some (40, 3) from hM.2 2 (1, 320) rfl) ?_
      refine V_ild1 dX7_isSo_42 ?_
      refine V_ild4 dX7_isSo_43 ?_
      refine V_iaddN dX7_isSo_45 ?_
      refine V_ian dX7_isSo_46 (hM.1 3 (1, 320) rfl) (by decide) (by omega) (by decide) ?_
      refine V_icmpne (tgt := 54) dX7_isSo_47 (by decide) (fun c47 => ?_) (fun c47 => ?_)
      · simp only [rGo] at c47
        refine V_iconst (v := 0) dX7_isSo_54 (by decide) ?_
        refine V_ist3 dX7_isSo_55 rfl ?_
        refine V_incN4 dX7_isSo_56 rfl ?_
        refine V_goto (tgt := 5) dX7_isSo_59 (by decide) ?_
        rw [show is = true from c17] at hq
        rw [show n - i = n - (i + 1) + 1 by omega, rSo, Bool.true_and, decide_eq_false c47] at hq
        exact hni (by omega) _ false hkf.tick hq
      · simp only [rGo] at c47
        refine V_iconst (v := 1) dX7_isSo_50 (by decide) ?_
        refine V_goto (tgt := 55) dX7_isSo_51 (by decide) ?_
        refine V_ist3 dX7_isSo_55 rfl ?_
        refine V_incN4 dX7_isSo_56 rfl ?_
        refine V_goto (tgt := 5) dX7_isSo_59 (by decide) ?_
        rw [show is = true from c17] at hq
        rw [show n - i = n - (i + 1) + 1 by omega, rSo, Bool.true_and, decide_eq_true c47] at hq
        exact hni (by omega) _ true hkf.tick hq
theorem kX7_refuses (hM : xMo Y G) {r : Nat} (hr8 : r < 8) {i n : Int32} (h1 : S 2 r < 0 → Q (some (xI (-1000010 - nI 1))) Y G (va_up N 40 (rFound S (nI 1)))) (h2 : ¬ S 2 r < 0 → ¬ rPart i n (S 2 r) → Q (some (xI (-1000010 - nI 2))) Y G (va_up N 40 (rFound S (nI 2)))) (h0 : ¬ S 2 r < 0 → rPart i n (S 2 r) → Q (some (xI 0)) Y G (va_up N 40 (rFound S 0))) : V RX7 false cX7_refuses 4 (some .int) none (d + 1) b 0 [some (xR 40 0), some (xI (nI r)), some (xI i), some (xI n)] [] Y G (va_up N 40 S) Q := by
  refine V_ald0 dX7_refuses_0 ?_
  refine V_getR dX7_refuses_1 flX7_13 (hM.1 0 (0, 7) rfl) (show G 40 0 1 = some (40, 2) from hM.2 1 (1, 8) rfl) ?_
  refine V_ild1 dX7_refuses_4 ?_
  refine V_iar dX7_refuses_5 (hM.1 2 (1, 8) rfl) (by omega) (by decide) ?_
  refine V_ifge (tgt := 15) dX7_refuses_6 (by decide) (fun c6 => ?_) (fun c6 => ?_)
  · skip
    refine V_ild2 dX7_refuses_15 ?_
    refine V_ild3 dX7_refuses_16 ?_
    refine V_ald0 dX7_refuses_17 ?_
    refine V_getR dX7_refuses_18 flX7_13 (hM.1 0 (0, 7) rfl) (show G 40 0 1 = some (40, 2) from hM.2 1 (1, 8) rfl) ?_
    refine V_ild1 dX7_refuses_21 ?_
    refine V_iar dX7_refuses_22 (hM.1 2 (1, 8) rfl) (by omega) (by decide) ?_
    refine V_is3 dX7_refuses_23 wlX7_93 mdX7_isPart msX7_isPart rfl rfl (kX7_isPart ⟨rfl, ?_⟩)
    refine V_ifneB (tgt := 35) dX7_refuses_26 (by decide) (fun c26 => ?_) (fun c26 => ?_)
    · skip
      refine V_ald0 dX7_refuses_35 ?_
      refine V_iconst (v := 0) dX7_refuses_36 (by decide) ?_
      refine V_putIr dX7_refuses_37 fwX7_65 (hM.1 0 (0, 7) rfl) ?_
      refine V_iconst (v := 0) dX7_refuses_40 (by decide) ?_
      refine V_ireturn dX7_refuses_41 ⟨_, rfl, vp_nar_int _⟩ ?_
      exact h0 (Int32.not_lt.mpr c6) c26
    · skip
      refine V_ald0 dX7_refuses_29 ?_
      refine V_iconst (v := nI 2) dX7_refuses_30 (by decide) ?_
      refine V_iv1 dX7_refuses_31 wlX7_85 mdX7_finds miX7_finds rfl (hM.1 0 (0, 7) rfl) rfl rfl (kX7_finds hM ⟨rfl, ?_⟩)
      refine V_ireturn dX7_refuses_34 ⟨_, rfl, vp_nar_int _⟩ ?_
      exact h2 (Int32.not_lt.mpr c6) c26
  · skip
    refine V_ald0 dX7_refuses_9 ?_
    refine V_iconst (v := nI 1) dX7_refuses_10 (by decide) ?_
    refine V_iv1 dX7_refuses_11 wlX7_85 mdX7_finds miX7_finds rfl (hM.1 0 (0, 7) rfl) rfl rfl (kX7_finds hM ⟨rfl, ?_⟩)
    refine V_ireturn dX7_refuses_14 ⟨_, rfl, vp_nar_int _⟩ ?_
    exact h1 (Int32.not_le.mp c6)
end KM
