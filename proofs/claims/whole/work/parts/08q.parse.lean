def rE (S : xT) (k : Nat) (v : Int32) : xT := va_up S 0 (upd (S 0) k v)
theorem pBy_in {b : Nat → Int32} {n i : Nat} (h : i < n) : pBy b n i = b i := if_pos h
section KM
variable {d : Nat} {b : Nat × Nat} {Y : xY} {G : xG} {N : xM} {S : xT} {f : Nat → Int32} {Q : Option xAV → xY → xG → xM → Prop} {c : Nat}
theorem kX7_here (hM : xMo Y G) {n : Nat} (hn : S 0 5 = nI n) (hn2 : n ≤ 110) {a : Nat} (ha : S 0 21 = nI a) (ha2 : a ≤ n) (hQ : Q (some (xI (pBy (S 5) n a))) Y G (va_up N 40 S)) : V RX7 false cX7_here 1 (some .int) none d b 0 [some (xR 40 0)] [] Y G (va_up N 40 S) Q := by
  refine V_ald0 dX7_here_0 ?_
  refine V_getIr dX7_here_1 flX7_100 (hM.1 0 (0, 7) rfl) ?_
  refine V_eqI ha ?_
  refine V_ald0 dX7_here_4 ?_
  refine V_getIr dX7_here_5 flX7_96 (hM.1 0 (0, 7) rfl) ?_
  refine V_eqI hn ?_
  refine V_icmpgeN (tgt := 23) dX7_here_8 (by decide) (by omega) (by omega) (fun c8 => ?_) (fun c8 => ?_)
  · skip
    refine V_iconst (v := (-1)) dX7_here_23 (by decide) ?_
    refine V_ireturn dX7_here_24 ⟨_, rfl, vp_nar_int _⟩ ?_
    unfold pBy at hQ
    rw [if_neg (by omega)] at hQ
    exact hQ
  · skip
    refine V_ald0 dX7_here_11 ?_
    refine V_getR dX7_here_12 flX7_19 (hM.1 0 (0, 7) rfl) (show G 40 0 4 = some (40, 5) from hM.2 4 (1, 110) rfl) ?_
    refine V_ald0 dX7_here_15 ?_
    refine V_getIr dX7_here_16 flX7_100 (hM.1 0 (0, 7) rfl) ?_
    refine V_eqI ha ?_
    refine V_iar dX7_here_19 (hM.1 5 (1, 110) rfl) (by omega) (by decide) ?_
    refine V_goto (tgt := 24) dX7_here_20 (by decide) ?_
    refine V_ireturn dX7_here_24 ⟨_, rfl, vp_nar_int _⟩ ?_
    unfold pBy at hQ
    rw [if_pos (by omega)] at hQ
    exact hQ
theorem kX7_failsO (hM : xMo Y G) {a : Nat} (ha : S 0 21 = nI a) (hw : S 0 23 = 0) {v : Int32} (hQ : Q none Y G (va_up N 40 (rE (rE S 23 v) 22 (nI a)))) : V RX7 false cX7_fails 2 none none d b 0 [some (xR 40 0), some (xI v)] [] Y G (va_up N 40 S) Q := by
  refine V_ald0 dX7_fails_0 ?_
  refine V_getIr dX7_fails_1 flX7_103 (hM.1 0 (0, 7) rfl) ?_
  refine V_ifne (tgt := 20) dX7_fails_4 (by decide) (fun c4 => ?_) (fun c4 => ?_)
  · exact absurd hw c4
  · skip
    refine V_ald0 dX7_fails_7 ?_
    refine V_ild1 dX7_fails_8 ?_
    refine V_putIr dX7_fails_9 fwX7_103 (hM.1 0 (0, 7) rfl) ?_
    refine V_ald0 dX7_fails_12 ?_
    refine V_ald0 dX7_fails_13 ?_
    refine V_getIr dX7_fails_14 flX7_100 (hM.1 0 (0, 7) rfl) ?_
    refine V_eqI (show _ = nI a from ha) ?_
    refine V_putIr dX7_fails_17 fwX7_106 (hM.1 0 (0, 7) rfl) ?_
    refine V_return dX7_fails_20 rfl ?_
    exact hQ
theorem kX7_failsW (hM : xMo Y G) (hw : ¬ S 0 23 = 0) {v : Int32} (hQ : Q none Y G (va_up N 40 S)) : V RX7 false cX7_fails 2 none none d b 0 [some (xR 40 0), some (xI v)] [] Y G (va_up N 40 S) Q := by
  refine V_ald0 dX7_fails_0 ?_
  refine V_getIr dX7_fails_1 flX7_103 (hM.1 0 (0, 7) rfl) ?_
  refine V_ifne (tgt := 20) dX7_fails_4 (by decide) (fun c4 => ?_) (fun c4 => ?_)
  · skip
    refine V_return dX7_fails_20 rfl ?_
    exact hQ
  · exact absurd (Classical.byContradiction fun q => absurd c4 q) hw
theorem kX7_signO (hM : xMo Y G) {n : Nat} (hn : S 0 5 = nI n) (hn2 : n ≤ 110) {a : Nat} (ha : S 0 21 = nI a) (ha2 : a ≤ n) (hw : S 0 23 = 0) {c : Int32} (h1 : pBy (S 5) n a = c → Q none Y G (va_up N 40 (rE S 21 (nI (a + 1))))) (h0 : ¬ pBy (S 5) n a = c → Q none Y G (va_up N 40 (rE (rE S 23 (nI 1)) 22 (nI a)))) : V RX7 false cX7_sign 2 none none (d + 1) b 0 [some (xR 40 0), some (xI c)] [] Y G (va_up N 40 S) Q := by
  refine V_ald0 dX7_sign_0 ?_
  refine V_getIr dX7_sign_1 flX7_103 (hM.1 0 (0, 7) rfl) ?_
  refine V_ifne (tgt := 28) dX7_sign_4 (by decide) (fun c4 => ?_) (fun c4 => ?_)
  · exact absurd hw c4
  · skip
    refine V_ald0 dX7_sign_7 ?_
    refine V_iv0 dX7_sign_8 wlX7_109 mdX7_here miX7_here rfl (hM.1 0 (0, 7) rfl) rfl rfl (kX7_here hM hn hn2 ha ha2 ⟨rfl, ?_⟩)
    refine V_ild1 dX7_sign_11 ?_
    refine V_icmpne (tgt := 28) dX7_sign_12 (by decide) (fun c12 => ?_) (fun c12 => ?_)
    · skip
      refine V_ald0 dX7_sign_28 ?_
      refine V_iconst (v := nI 1) dX7_sign_29 (by decide) ?_
      refine V_iv1 dX7_sign_30 wlX7_113 mdX7_fails miX7_fails rfl (hM.1 0 (0, 7) rfl) rfl rfl (kX7_failsO hM ha hw ⟨rfl, ?_⟩)
      refine V_return dX7_sign_33 rfl ?_
      exact h0 c12
    · skip
      refine V_ald0 dX7_sign_15 ?_
      refine V_dupR dX7_sign_16 ?_
      refine V_getIr dX7_sign_17 flX7_100 (hM.1 0 (0, 7) rfl) ?_
      refine V_eqI ha ?_
      refine V_iconst (v := nI 1) dX7_sign_20 (by decide) ?_
      refine V_iaddN dX7_sign_21 ?_
      refine V_putIr dX7_sign_22 fwX7_100 (hM.1 0 (0, 7) rfl) ?_
      refine V_goto (tgt := 33) dX7_sign_25 (by decide) ?_
      refine V_return dX7_sign_33 rfl ?_
      exact h1 c12
theorem kX7_signW (hM : xMo Y G) (hw : ¬ S 0 23 = 0) {c : Int32} (hQ : Q none Y G (va_up N 40 S)) : V RX7 false cX7_sign 2 none none (d + 1) b 0 [some (xR 40 0), some (xI c)] [] Y G (va_up N 40 S) Q := by
  refine V_ald0 dX7_sign_0 ?_
  refine V_getIr dX7_sign_1 flX7_103 (hM.1 0 (0, 7) rfl) ?_
  refine V_ifne (tgt := 28) dX7_sign_4 (by decide) (fun c4 => ?_) (fun c4 => ?_)
  · skip
    refine V_ald0 dX7_sign_28 ?_
    refine V_iconst (v := nI 1) dX7_sign_29 (by decide) ?_
    refine V_iv1 dX7_sign_30 wlX7_113 mdX7_fails miX7_fails rfl (hM.1 0 (0, 7) rfl) rfl rfl (kX7_failsW hM hw ⟨rfl, ?_⟩)
    refine V_return dX7_sign_33 rfl ?_
    exact hQ
  · exact absurd (Classical.byContradiction fun q => absurd c4 q) hw
theorem kX7_figures (hM : xMo Y G) {n : Nat} (hn : S 0 5 = nI n) (hn2 : n ≤ 110) {a : Nat} (ha : S 0 21 = nI a) (ha2 : a ≤ n) (hQ : ∀ k, (∀ j, j < k → pFg (S 5) n (a + j)) → ¬ pFg (S 5) n (a + k) → a + k ≤ n → Q (some (xI (nI k))) Y G (va_up N 40 S)) : V RX7 false cX7_figures 2 (some .int) none (d + 1) b 0 [some (xR 40 0), none] [] Y G (va_up N 40 S) Q := by
  refine V_iconst (v := nI 0) dX7_figures_0 (by decide) ?_
  refine V_ist1 dX7_figures_1 rfl ?_
  refine xDown (P := fun i => (∀ j, j < i → pFg (S 5) n (a + j)) → V RX7 false cX7_figures 2 (some .int) none (d + 1) b 2 [some (xR 40 0), some (xI (nI i))] [] Y G (va_up N 40 S) Q) (n - a) ?_ 0 (Nat.zero_le _) (fun j hj => absurd hj (by omega)) 
  intro i hii hni hf
  refine V_ald0 dX7_figures_2 ?_
  refine V_getIr dX7_figures_3 flX7_100 (hM.1 0 (0, 7) rfl) ?_
  refine V_eqI ha ?_
  refine V_ild1 dX7_figures_6 ?_
  refine V_iaddN dX7_figures_7 ?_
  refine V_ald0 dX7_figures_8 ?_
  refine V_getIr dX7_figures_9 flX7_96 (hM.1 0 (0, 7) rfl) ?_
  refine V_eqI hn ?_
  refine V_icmpgeN (tgt := 42) dX7_figures_12 (by decide) (by omega) (by omega) (fun c12 => ?_) (fun c12 => ?_)
  · skip
    refine V_ild1 dX7_figures_42 ?_
    refine V_ireturn dX7_figures_43 ⟨_, rfl, vp_nar_int _⟩ ?_
    exact hQ i hf (fun h => by have := pFg_lt h; omega) (by omega)
  · skip
    refine V_ald0 dX7_figures_15 ?_
    refine V_getR dX7_figures_16 flX7_19 (hM.1 0 (0, 7) rfl) (show G 40 0 4 = some (40, 5) from hM.2 4 (1, 110) rfl) ?_
    refine V_ald0 dX7_figures_19 ?_
    refine V_getIr dX7_figures_20 flX7_100 (hM.1 0 (0, 7) rfl) ?_
    refine V_eqI ha ?_
    refine V_ild1 dX7_figures_23 ?_
    refine V_iaddN dX7_figures_24 ?_
    refine V_iar dX7_figures_25 (hM.1 5 (1, 110) rfl) (by omega) (by decide) ?_
    refine V_bipush (v := nI 48) dX7_figures_26 (by decide) ?_
    refine V_bipush (v := nI 57) dX7_figures_28 (by decide) ?_
    refine V_is3 dX7_figures_30 wlX7_70 mdX7_in msX7_in rfl rfl (kX7_in ⟨rfl, ?_⟩)
    refine V_ifeqB (tgt := 42) dX7_figures_33 (by decide) (fun c33 => ?_) (fun c33 => ?_)
    · skip
      refine V_ild1 dX7_figures_42 ?_
      refine V_ireturn dX7_figures_43 ⟨_, rfl, vp_nar_int _⟩ ?_
      exact hQ i hf (fun h => c33 (by unfold pFg at h; rw [pBy_in (by omega)] at h; exact h)) (by omega)
    · skip
      refine V_incN1 dX7_figures_36 rfl ?_
      refine V_goto (tgt := 2) dX7_figures_39 (by decide) ?_
      exact hni (by omega) (fun j hj => by
        by_cases e : j = i
        · rw [e]; unfold pFg; rw [pBy_in (by omega)]; exact c33
        · exact hf j (by omega))
theorem kX7_numberO (hM : xMo Y G) {n : Nat} (hn : S 0 5 = nI n) (hn2 : n ≤ 110) {a : Nat} (ha : S 0 21 = nI a) (ha2 : a ≤ n) (hw : S 0 23 = 0) {lo hi : Int32} (h0 : ∀ f, pNm (S 5) n lo hi a = .inl f → (f = 1 ∨ f = 2) → Q (some (xI 0)) Y G (va_up N 40 (rE (rE S 23 (nI f)) 22 (nI a)))) (h1 : ∀ v a2, pNm (S 5) n lo hi a = .inr (v, a2) → a < a2 → a2 ≤ n → Q (some (xI v)) Y G (va_up N 40 (rE S 21 (nI a2)))) : V RX7 false cX7_number 5 (some .int) none (d + 2) b 0 [some (xR 40 0), some (xI lo), some (xI hi), none, none] [] Y G (va_up N 40 S) Q := by
  refine V_ald0 dX7_number_0 ?_
  refine V_iv0 dX7_number_1 wlX7_117 mdX7_figures miX7_figures rfl (hM.1 0 (0, 7) rfl) rfl rfl (kX7_figures hM hn hn2 ha ha2 (fun k hf hnf hak => ⟨rfl, ?_⟩))
  refine V_ist3 dX7_number_4 rfl ?_
  refine V_ald0 dX7_number_5 ?_
  refine V_getIr dX7_number_6 flX7_103 (hM.1 0 (0, 7) rfl) ?_
  refine V_ifne (tgt := 21) dX7_number_9 (by decide) (fun c9 => ?_) (fun c9 => ?_)
  · exact absurd hw c9
  · skip
    refine V_ild3 dX7_number_12 ?_
    refine V_iconst (v := nI 1) dX7_number_13 (by decide) ?_
    refine V_iconst (v := nI 2) dX7_number_14 (by decide) ?_
    refine V_is3 dX7_number_15 wlX7_70 mdX7_in msX7_in rfl rfl (kX7_in ⟨rfl, ?_⟩)
    refine V_ifneB (tgt := 28) dX7_number_18 (by decide) (fun c18 => ?_) (fun c18 => ?_)
    · skip
      obtain ⟨k2, hk1, hk2, hkk⟩ := rIn_k c18 (by decide) (by decide)
      obtain rfl : k = k2 := nI_inj (by omega) (by omega) hkk
      refine V_ild3 dX7_number_28 ?_
      refine V_iconst (v := nI 1) dX7_number_29 (by decide) ?_
      refine V_icmpneN (tgt := 48) dX7_number_30 (by decide) (by omega) (by omega) (fun c30 => ?_) (fun c30 => ?_)
      · skip
        refine V_bipush (v := nI 10) dX7_number_48 (by decide) ?_
        refine V_ald0 dX7_number_50 ?_
        refine V_getR dX7_number_51 flX7_19 (hM.1 0 (0, 7) rfl) (show G 40 0 4 = some (40, 5) from hM.2 4 (1, 110) rfl) ?_
        refine V_ald0 dX7_number_54 ?_
        refine V_getIr dX7_number_55 flX7_100 (hM.1 0 (0, 7) rfl) ?_
        refine V_eqI (show _ = nI a from ha) ?_
        refine V_iar dX7_number_58 (hM.1 5 (1, 110) rfl) (by omega) (by decide) ?_
        refine V_bipush (v := nI 48) dX7_number_59 (by decide) ?_
        refine V_isub dX7_number_61 ?_
        refine V_imul dX7_number_62 ?_
        refine V_ald0 dX7_number_63 ?_
        refine V_getR dX7_number_64 flX7_19 (hM.1 0 (0, 7) rfl) (show G 40 0 4 = some (40, 5) from hM.2 4 (1, 110) rfl) ?_
        refine V_ald0 dX7_number_67 ?_
        refine V_getIr dX7_number_68 flX7_100 (hM.1 0 (0, 7) rfl) ?_
        refine V_eqI (show _ = nI a from ha) ?_
        refine V_iconst (v := nI 1) dX7_number_71 (by decide) ?_
        refine V_iaddN dX7_number_72 ?_
        refine V_iar dX7_number_73 (hM.1 5 (1, 110) rfl) (by omega) (by decide) ?_
        refine V_iadd dX7_number_74 ?_
        refine V_bipush (v := nI 48) dX7_number_75 (by decide) ?_
        refine V_isub dX7_number_77 ?_
        have hp : pN (S 5) n a = some (nI 10 * (S 5 a - nI 48) + S 5 (a + 1) - nI 48, a + k) := by
          unfold pN
          have k2 : k = 2 := by omega
          rw [if_pos (show pFg (S 5) n a from hf 0 (by omega)), if_pos (hf 1 (by omega)), if_neg (by rw [k2] at hnf; exact hnf), pBy_in (by omega), pBy_in (by omega), k2, Int32.mul_comm (nI 10)]
        generalize hvv : nI 10 * (S 5 a - nI 48) + S 5 (a + 1) - nI 48 = vv at hp ⊢
        refine V_ist4 dX7_number_78 rfl ?_
        refine V_ild4 dX7_number_80 ?_
        refine V_ild1 dX7_number_82 ?_
        refine V_ild2 dX7_number_83 ?_
        refine V_is3 dX7_number_84 wlX7_70 mdX7_in msX7_in rfl rfl (kX7_in ⟨rfl, ?_⟩)
        refine V_ifneB (tgt := 97) dX7_number_87 (by decide) (fun c87 => ?_) (fun c87 => ?_)
        · skip
          refine V_ald0 dX7_number_97 ?_
          refine V_dupR dX7_number_98 ?_
          refine V_getIr dX7_number_99 flX7_100 (hM.1 0 (0, 7) rfl) ?_
          refine V_eqI (show _ = nI a from ha) ?_
          refine V_ild3 dX7_number_102 ?_
          refine V_iaddN dX7_number_103 ?_
          refine V_putIr dX7_number_104 fwX7_100 (hM.1 0 (0, 7) rfl) ?_
          refine V_ild4 dX7_number_107 ?_
          refine V_ireturn dX7_number_109 ⟨_, rfl, vp_nar_int _⟩ ?_
          refine h1 vv (a + k) ?_ (by omega) hak
          unfold pNm
          rw [hp]
          exact if_neg (fun h => h.elim c87.1 c87.2)
        · skip
          refine V_ald0 dX7_number_90 ?_
          refine V_iconst (v := nI 2) dX7_number_91 (by decide) ?_
          refine V_iv1 dX7_number_92 wlX7_113 mdX7_fails miX7_fails rfl (hM.1 0 (0, 7) rfl) rfl rfl (kX7_failsO hM ha hw ⟨rfl, ?_⟩)
          refine V_iconst (v := 0) dX7_number_95 (by decide) ?_
          refine V_ireturn dX7_number_96 ⟨_, rfl, vp_nar_int _⟩ ?_
          refine h0 2 ?_ (Or.inr rfl)
          unfold pNm
          rw [hp]
          exact if_pos (Classical.byContradiction fun q => c87 ⟨fun h => q (Or.inl h), fun h => q (Or.inr h)⟩)
      · skip
        refine V_ald0 dX7_number_33 ?_
        refine V_getR dX7_number_34 flX7_19 (hM.1 0 (0, 7) rfl) (show G 40 0 4 = some (40, 5) from hM.2 4 (1, 110) rfl) ?_
        refine V_ald0 dX7_number_37 ?_
        refine V_getIr dX7_number_38 flX7_100 (hM.1 0 (0, 7) rfl) ?_
        refine V_eqI (show _ = nI a from ha) ?_
        refine V_iar dX7_number_41 (hM.1 5 (1, 110) rfl) (by omega) (by decide) ?_
        refine V_bipush (v := nI 48) dX7_number_42 (by decide) ?_
        refine V_isub dX7_number_44 ?_
        refine V_goto (tgt := 78) dX7_number_45 (by decide) ?_
        have hp : pN (S 5) n a = some (S 5 a - nI 48, a + k) := by
          unfold pN
          rw [if_pos (show pFg (S 5) n a from hf 0 (by omega)), if_neg (by rw [c30] at hnf; exact hnf), pBy_in (by omega), c30]
        generalize hvv : S 5 a - nI 48 = vv at hp ⊢
        refine V_ist4 dX7_number_78 rfl ?_
        refine V_ild4 dX7_number_80 ?_
        refine V_ild1 dX7_number_82 ?_
        refine V_ild2 dX7_number_83 ?_
        refine V_is3 dX7_number_84 wlX7_70 mdX7_in msX7_in rfl rfl (kX7_in ⟨rfl, ?_⟩)
        refine V_ifneB (tgt := 97) dX7_number_87 (by decide) (fun c87 => ?_) (fun c87 => ?_)
        · skip
          refine V_ald0 dX7_number_97 ?_
          refine V_dupR dX7_number_98 ?_
          refine V_getIr dX7_number_99 flX7_100 (hM.1 0 (0, 7) rfl) ?_
          refine V_eqI (show _ = nI a from ha) ?_
          refine V_ild3 dX7_number_102 ?_
          refine V_iaddN dX7_number_103 ?_
          refine V_putIr dX7_number_104 fwX7_100 (hM.1 0 (0, 7) rfl) ?_
          refine V_ild4 dX7_number_107 ?_
          refine V_ireturn dX7_number_109 ⟨_, rfl, vp_nar_int _⟩ ?_
          refine h1 vv (a + k) ?_ (by omega) hak
          unfold pNm
          rw [hp]
          exact if_neg (fun h => h.elim c87.1 c87.2)
        · skip
          refine V_ald0 dX7_number_90 ?_
          refine V_iconst (v := nI 2) dX7_number_91 (by decide) ?_
          refine V_iv1 dX7_number_92 wlX7_113 mdX7_fails miX7_fails rfl (hM.1 0 (0, 7) rfl) rfl rfl (kX7_failsO hM ha hw ⟨rfl, ?_⟩)
          refine V_iconst (v := 0) dX7_number_95 (by decide) ?_
          refine V_ireturn dX7_number_96 ⟨_, rfl, vp_nar_int _⟩ ?_
          refine h0 2 ?_ (Or.inr rfl)
          unfold pNm
          rw [hp]
          exact if_pos (Classical.byContradiction fun q => c87 ⟨fun h => q (Or.inl h), fun h => q (Or.inr h)⟩)
    · skip
      refine V_ald0 dX7_number_21 ?_
      refine V_iconst (v := nI 1) dX7_number_22 (by decide) ?_
      refine V_iv1 dX7_number_23 wlX7_113 mdX7_fails miX7_fails rfl (hM.1 0 (0, 7) rfl) rfl rfl (kX7_failsO hM ha hw ⟨rfl, ?_⟩)
      refine V_iconst (v := 0) dX7_number_26 (by decide) ?_
      refine V_ireturn dX7_number_27 ⟨_, rfl, vp_nar_int _⟩ ?_
      refine h0 1 ?_ (Or.inl rfl)
      have hp : pN (S 5) n a = none := by
        unfold pN
        by_cases k0 : k = 0
        · rw [if_neg (by rw [k0] at hnf; exact hnf)]
        · have k3 : 3 ≤ k := by
            refine Nat.le_of_not_lt fun q => c18 ⟨nI_nlt (by omega) (by omega), nI_nlt (by omega) (by omega)⟩
          rw [if_pos (show pFg (S 5) n a from hf 0 (by omega)), if_pos (hf 1 (by omega)), if_pos (hf 2 (by omega))]
      unfold pNm
      rw [hp]
theorem kX7_numberW (hM : xMo Y G) {n : Nat} (hn : S 0 5 = nI n) (hn2 : n ≤ 110) {a : Nat} (ha : S 0 21 = nI a) (ha2 : a ≤ n) (hw : ¬ S 0 23 = 0) {lo hi : Int32} (hQ : Q (some (xI 0)) Y G (va_up N 40 S)) : V RX7 false cX7_number 5 (some .int) none (d + 2) b 0 [some (xR 40 0), some (xI lo), some (xI hi), none, none] [] Y G (va_up N 40 S) Q := by
  refine V_ald0 dX7_number_0 ?_
  refine V_iv0 dX7_number_1 wlX7_117 mdX7_figures miX7_figures rfl (hM.1 0 (0, 7) rfl) rfl rfl (kX7_figures hM hn hn2 ha ha2 (fun k hf hnf hak => ⟨rfl, ?_⟩))
  refine V_ist3 dX7_number_4 rfl ?_
  refine V_ald0 dX7_number_5 ?_
  refine V_getIr dX7_number_6 flX7_103 (hM.1 0 (0, 7) rfl) ?_
  refine V_ifne (tgt := 21) dX7_number_9 (by decide) (fun c9 => ?_) (fun c9 => ?_)
  · skip
    refine V_ald0 dX7_number_21 ?_
    refine V_iconst (v := nI 1) dX7_number_22 (by decide) ?_
    refine V_iv1 dX7_number_23 wlX7_113 mdX7_fails miX7_fails rfl (hM.1 0 (0, 7) rfl) rfl rfl (kX7_failsW hM hw ⟨rfl, ?_⟩)
    refine V_iconst (v := 0) dX7_number_26 (by decide) ?_
    refine V_ireturn dX7_number_27 ⟨_, rfl, vp_nar_int _⟩ ?_
    exact hQ
  · exact absurd (Classical.byContradiction fun q => absurd c9 q) hw
theorem kX7_sortBy {x : Int32} (hQ : Q (some (xI (pSo x))) Y G N) : V RX7 false cX7_sortBy 1 (some .int) none d b 0 [some (xI x)] [] Y G N Q := by
  refine V_ild0 dX7_sortBy_0 ?_
  refine V_bipush (v := nI 103) dX7_sortBy_1 (by decide) ?_
  refine V_icmpne (tgt := 10) dX7_sortBy_3 (by decide) (fun c3 => ?_) (fun c3 => ?_)
  · skip
    refine V_ild0 dX7_sortBy_10 ?_
    refine V_bipush (v := nI 108) dX7_sortBy_11 (by decide) ?_
    refine V_icmpne (tgt := 20) dX7_sortBy_13 (by decide) (fun c13 => ?_) (fun c13 => ?_)
    · skip
      refine V_ild0 dX7_sortBy_20 ?_
      refine V_bipush (v := nI 104) dX7_sortBy_21 (by decide) ?_
      refine V_icmpne (tgt := 30) dX7_sortBy_23 (by decide) (fun c23 => ?_) (fun c23 => ?_)
      · skip
        refine V_ild0 dX7_sortBy_30 ?_
        refine V_bipush (v := nI 115) dX7_sortBy_31 (by decide) ?_
        refine V_icmpne (tgt := 40) dX7_sortBy_33 (by decide) (fun c33 => ?_) (fun c33 => ?_)
        · skip
          refine V_ild0 dX7_sortBy_40 ?_
          refine V_bipush (v := nI 119) dX7_sortBy_41 (by decide) ?_
          refine V_icmpne (tgt := 50) dX7_sortBy_43 (by decide) (fun c43 => ?_) (fun c43 => ?_)
          · skip
            refine V_iconst (v := nI 0) dX7_sortBy_50 (by decide) ?_
            refine V_ireturn dX7_sortBy_51 ⟨_, rfl, vp_nar_int _⟩ ?_
            unfold pSo at hQ
            rw [if_neg c3, if_neg c23, if_neg c13, if_neg c33, if_neg c43] at hQ
            exact hQ
          · skip
            refine V_iconst (v := nI 5) dX7_sortBy_46 (by decide) ?_
            refine V_goto (tgt := 51) dX7_sortBy_47 (by decide) ?_
            refine V_ireturn dX7_sortBy_51 ⟨_, rfl, vp_nar_int _⟩ ?_
            unfold pSo at hQ
            rw [if_neg c3, if_neg c23, if_neg c13, if_neg c33, if_pos c43] at hQ
            exact hQ
        · skip
          refine V_iconst (v := nI 4) dX7_sortBy_36 (by decide) ?_
          refine V_goto (tgt := 51) dX7_sortBy_37 (by decide) ?_
          refine V_ireturn dX7_sortBy_51 ⟨_, rfl, vp_nar_int _⟩ ?_
          unfold pSo at hQ
          rw [if_neg c3, if_neg c23, if_neg c13, if_pos c33] at hQ
          exact hQ
      · skip
        refine V_iconst (v := nI 3) dX7_sortBy_26 (by decide) ?_
        refine V_goto (tgt := 51) dX7_sortBy_27 (by decide) ?_
        refine V_ireturn dX7_sortBy_51 ⟨_, rfl, vp_nar_int _⟩ ?_
        unfold pSo at hQ
        rw [if_neg c3, if_pos c23] at hQ
        exact hQ
    · skip
      refine V_iconst (v := nI 2) dX7_sortBy_16 (by decide) ?_
      refine V_goto (tgt := 51) dX7_sortBy_17 (by decide) ?_
      refine V_ireturn dX7_sortBy_51 ⟨_, rfl, vp_nar_int _⟩ ?_
      unfold pSo at hQ
      rw [if_neg c3, if_neg (by rw [c13]; decide), if_pos c13] at hQ
      exact hQ
  · skip
    refine V_iconst (v := nI 1) dX7_sortBy_6 (by decide) ?_
    refine V_goto (tgt := 51) dX7_sortBy_7 (by decide) ?_
    refine V_ireturn dX7_sortBy_51 ⟨_, rfl, vp_nar_int _⟩ ?_
    unfold pSo at hQ
    rw [if_pos c3] at hQ
    exact hQ
end KM
