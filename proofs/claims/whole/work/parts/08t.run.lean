def rRd (f : Nat → Int32) : Prop := ∀ j, j < 67 → f j = if 25 ≤ j ∧ j < 33 then -1000000 else nI 0
section KM
variable {d : Nat} {b : Nat × Nat} {Y : xY} {G : xG} {N : xM} {S : xT} {f : Nat → Int32} {Q : Option xAV → xY → xG → xM → Prop} {c : Nat}
theorem kX7_readRun (hM : xMo Y G) {n : Nat} (hn : S 0 5 = nI n) (hn2 : n ≤ 110) (hby : ∀ j, j < n → ¬ pBy (S 5) n j = -1) (h0 : ∀ f pl S2, pRun (S 5) n = .inl (f, pl) → S2 0 23 = nI f → ¬ nI f = 0 → S2 0 22 = nI pl → rKeep S S2 → Q none Y G (va_up N 40 S2)) (h1 : ∀ v ms ps f0 S2, pRun (S 5) n = .inr (v, ms, ps) → rRd f0 → S2 0 23 = 0 → S2 0 24 = v → S2 0 25 = nI ms.length → S2 0 26 = nI ps.length → S2 29 = rPl (rMl f0 0 ms) 0 ps → S2 28 = rSl (S 28) 0 ps → rKeep S S2 → Q none Y G (va_up N 40 S2)) : V RX7 false cX7_readRun 2 none none (d + 4) b 0 [some (xR 40 0), none] [] Y G (va_up N 40 S) Q := by
  refine V_ald0 dX7_readRun_0 ?_
  refine V_iconst (v := 0) dX7_readRun_1 (by decide) ?_
  refine V_putIr dX7_readRun_2 fwX7_100 (hM.1 0 (0, 7) rfl) ?_
  refine V_ald0 dX7_readRun_5 ?_
  refine V_iconst (v := 0) dX7_readRun_6 (by decide) ?_
  refine V_putIr dX7_readRun_7 fwX7_103 (hM.1 0 (0, 7) rfl) ?_
  refine V_ald0 dX7_readRun_10 ?_
  refine V_iconst (v := 0) dX7_readRun_11 (by decide) ?_
  refine V_putIr dX7_readRun_12 fwX7_120 (hM.1 0 (0, 7) rfl) ?_
  refine V_ald0 dX7_readRun_15 ?_
  refine V_iconst (v := 0) dX7_readRun_16 (by decide) ?_
  refine V_putIr dX7_readRun_17 fwX7_132 (hM.1 0 (0, 7) rfl) ?_
  refine V_iconst (v := nI 0) dX7_readRun_20 (by decide) ?_
  refine V_ist1 dX7_readRun_21 rfl ?_
  refine xDown (P := fun i => ∀ S1, S1 0 21 = nI 0 → S1 0 23 = 0 → S1 0 25 = nI 0 → S1 0 26 = nI 0 → S1 28 = S 28 → rKeep S S1 → (∀ j, j < i → S1 29 j = if 25 ≤ j ∧ j < 33 then -1000000 else nI 0) → V RX7 false cX7_readRun 2 none none (d + 4) b 22 [some (xR 40 0), some (xI (nI i))] [] Y G (va_up N 40 S1) Q) 67 ?_ 0 (Nat.zero_le _) _ rfl rfl rfl rfl rfl (((((rKeep.rf S).e (by decide) _).e (by decide) _).e (by decide) _).e (by decide) _) (fun j hj => absurd hj (by omega)) 
  intro i hii hni S1 e21 e23 e25 e26 e28 hkeep e29
  refine V_ild1 dX7_readRun_22 ?_
  refine V_bipush (v := nI 67) dX7_readRun_23 (by decide) ?_
  refine V_icmpgeN (tgt := 57) dX7_readRun_25 (by decide) (by omega) (by omega) (fun c25 => ?_) (fun c25 => ?_)
  · skip
    rw [show i = 67 by omega] at e29 ⊢
    have hn1 := hkeep.t hn
    have h5 := hkeep.c5
    have hrd : rRd (S1 29) := e29
    rw [← h5] at h0 h1 hby
    refine V_ald0 dX7_readRun_57 ?_
    refine V_bipush (v := nI 98) dX7_readRun_58 (by decide) ?_
    refine V_iv1 dX7_readRun_60 wlX7_123 mdX7_sign miX7_sign rfl (hM.1 0 (0, 7) rfl) rfl rfl (kX7_signO (n := n) (a := 0) hM (by exact hn1) hn2 (by first | exact e21 | rfl) (by omega) (by exact e23) (fun e60 => ⟨rfl, ?_⟩) (fun ne60 => ⟨rfl, ?_⟩))
    · skip
      replace e60 : pBy (S1 5) n 0 = _ := e60
      have l60 := pBy_lt (by decide) e60
      refine V_ald0 dX7_readRun_63 ?_
      refine V_ald0 dX7_readRun_64 ?_
      refine V_iconst (v := nI 1) dX7_readRun_65 (by decide) ?_
      refine V_bipush (v := nI 9) dX7_readRun_66 (by decide) ?_
      refine V_iv2 dX7_readRun_68 wlX7_126 mdX7_number miX7_number rfl (hM.1 0 (0, 7) rfl) rfl rfl (kX7_numberO (n := n) (a := (0 + 1)) hM (by exact hn1) hn2 (by first | exact e21 | rfl) (by omega) (by exact e23) (fun f68 e68 q68 => ⟨rfl, ?_⟩) (fun v68 a68 e68 q68 r68 => ⟨rfl, ?_⟩))
      · skip
        have hwr : ¬ nI f68 = 0 := by rcases q68 with e | e <;> (rw [e]; decide)
        replace e68 : pNm (S1 5) n _ _ (0 + 1) = _ := e68
        refine V_putIr dX7_readRun_71 fwX7_136 (hM.1 0 (0, 7) rfl) ?_
        refine V_ald0 dX7_readRun_74 ?_
        refine V_bipush (v := nI 59) dX7_readRun_75 (by decide) ?_
        refine V_iv1 dX7_readRun_77 wlX7_123 mdX7_sign miX7_sign rfl (hM.1 0 (0, 7) rfl) rfl rfl (kX7_signW hM (by exact hwr) ⟨rfl, ?_⟩)
        have hpl : pLaw (S1 5) n 0 = .inl (f68, (0 + 1)) := by unfold pLaw; rw [if_pos e60, e68]
        exact xW80 hM (by exact hwr) (xW110 hM (by exact hwr) (h0 f68 (0 + 1) _ (by unfold pRun; rw [hpl]) rfl hwr rfl (by repeat (first | exact hkeep | refine rKeep.e ?_ (by decide) _ | refine rKeep.u ?_ (by decide) _))))
      · skip
        replace e68 : pNm (S1 5) n _ _ (0 + 1) = _ := e68
        refine V_putIr dX7_readRun_71 fwX7_136 (hM.1 0 (0, 7) rfl) ?_
        refine V_ald0 dX7_readRun_74 ?_
        refine V_bipush (v := nI 59) dX7_readRun_75 (by decide) ?_
        refine V_iv1 dX7_readRun_77 wlX7_123 mdX7_sign miX7_sign rfl (hM.1 0 (0, 7) rfl) rfl rfl (kX7_signO (n := n) (a := a68) hM (by exact hn1) hn2 (by first | exact e21 | rfl) (by omega) (by exact e23) (fun e77 => ⟨rfl, ?_⟩) (fun ne77 => ⟨rfl, ?_⟩))
        · skip
          replace e77 : pBy (S1 5) n a68 = _ := e77
          have l77 := pBy_lt (by decide) e77
          have hpl : pLaw (S1 5) n 0 = .inr (v68, a68 + 1) := by unfold pLaw; rw [if_pos e60, e68]; exact if_pos e77
          refine xRM hM hn2 7 0 (a68 + 1) _ rfl (by decide) (by exact hn1) rfl (by omega) (by exact e23) (by exact e25) (fun f pl S2 q1 q2 q3 q4 qk => ?_) (fun l a2 S2 q1 q2 q3 q4 q5 q6 q7 q8 q9 qk => ?_)
          · replace q1 : pMs (S1 5) n 7 0 (a68 + 1) = _ := q1
            have qk1 : rKeep S S2 := hkeep.tr (rKeep.tr (by repeat (first | exact rKeep.rf _ | refine rKeep.e ?_ (by decide) _ | refine rKeep.u ?_ (by decide) _)) qk)
            exact xW110 hM (by rw [q2]; exact q3) (h0 f pl S2 (by unfold pRun; rw [hpl]; show (match pMs (S1 5) n 7 0 (a68 + 1) with | .inl e => _ | .inr (ms, a2) => _) = _; rw [q1]) q2 q3 q4 qk1)
          · replace q1 : pMs (S1 5) n 7 0 (a68 + 1) = _ := q1
            have qk1 : rKeep S1 S2 := rKeep.tr (by repeat (first | exact rKeep.rf _ | refine rKeep.e ?_ (by decide) _ | refine rKeep.u ?_ (by decide) _)) qk
            have h52 := qk1.c5
            replace q6 : S2 0 24 = v68 := q6
            replace q8 : S2 29 = rMl (S1 29) 0 l := q8
            replace q9 : S2 28 = S1 28 := q9
            refine xRP hM hn2 9 0 a2 S2 rfl (by decide) (qk1.t hn1) q2 q3 q4 (q7.trans e26) (by rw [h52]; exact hby) (fun f pl S3 r1 r2 r3 r4 rk => ?_) (fun ps S3 r1 r2 r3 r4 r5 r6 r7 rk => ?_)
            · rw [h52] at r1
              exact h0 f pl S3 (by unfold pRun; rw [hpl]; show (match pMs (S1 5) n 7 0 (a68 + 1) with | .inl e => _ | .inr (ms, a2) => _) = _; rw [q1]; show (match pPs (S1 5) n 9 0 a2 with | .inl e => _ | .inr ps => _) = _; rw [r1]) r2 r3 r4 ((hkeep.tr qk1).tr rk)
            · rw [h52] at r1
              exact h1 v68 l ps (S1 29) S3 (by unfold pRun; rw [hpl]; show (match pMs (S1 5) n 7 0 (a68 + 1) with | .inl e => _ | .inr (ms, a2) => _) = _; rw [q1]; show (match pPs (S1 5) n 9 0 a2 with | .inl e => _ | .inr ps => _) = _; rw [r1]) hrd r2 (r4.trans q6) (by rw [r5, q5, Nat.zero_add]) (by rw [r3, Nat.zero_add]) (by rw [r6, q8]) (by rw [r7, q9, e28]) ((hkeep.tr qk1).tr rk)
        · skip
          have hwr : ¬ nI 1 = 0 := by decide
          replace ne77 : ¬ pBy (S1 5) n a68 = _ := ne77
          have hpl : pLaw (S1 5) n 0 = .inl (1, a68) := by unfold pLaw; rw [if_pos e60, e68]; exact if_neg ne77
          exact xW80 hM (by exact hwr) (xW110 hM (by exact hwr) (h0 1 a68 _ (by unfold pRun; rw [hpl]) rfl hwr rfl (by repeat (first | exact hkeep | refine rKeep.e ?_ (by decide) _ | refine rKeep.u ?_ (by decide) _))))
    · skip
      have hwr : ¬ nI 1 = 0 := by decide
      replace ne60 : ¬ pBy (S1 5) n 0 = _ := ne60
      refine V_ald0 dX7_readRun_63 ?_
      refine V_ald0 dX7_readRun_64 ?_
      refine V_iconst (v := nI 1) dX7_readRun_65 (by decide) ?_
      refine V_bipush (v := nI 9) dX7_readRun_66 (by decide) ?_
      refine V_iv2 dX7_readRun_68 wlX7_126 mdX7_number miX7_number rfl (hM.1 0 (0, 7) rfl) rfl rfl (kX7_numberW (n := n) (a := 0) hM (by exact hn1) hn2 (by first | exact e21 | rfl) (by omega) (by exact hwr) ⟨rfl, ?_⟩)
      refine V_putIr dX7_readRun_71 fwX7_136 (hM.1 0 (0, 7) rfl) ?_
      refine V_ald0 dX7_readRun_74 ?_
      refine V_bipush (v := nI 59) dX7_readRun_75 (by decide) ?_
      refine V_iv1 dX7_readRun_77 wlX7_123 mdX7_sign miX7_sign rfl (hM.1 0 (0, 7) rfl) rfl rfl (kX7_signW hM (by exact hwr) ⟨rfl, ?_⟩)
      have hpl : pLaw (S1 5) n 0 = .inl (1, 0) := by unfold pLaw; rw [if_neg ne60]
      exact xW80 hM (by exact hwr) (xW110 hM (by exact hwr) (h0 1 0 _ (by unfold pRun; rw [hpl]) rfl hwr rfl (by repeat (first | exact hkeep | refine rKeep.e ?_ (by decide) _ | refine rKeep.u ?_ (by decide) _))))
  · skip
    refine V_ald0 dX7_readRun_28 ?_
    refine V_getR dX7_readRun_29 flX7_50 (hM.1 0 (0, 7) rfl) (show G 40 0 28 = some (40, 29) from hM.2 28 (1, 67) rfl) ?_
    refine V_ild1 dX7_readRun_32 ?_
    refine V_ild1 dX7_readRun_33 ?_
    refine V_bipush (v := nI 25) dX7_readRun_34 (by decide) ?_
    refine V_bipush (v := nI 32) dX7_readRun_36 (by decide) ?_
    refine V_is3 dX7_readRun_38 wlX7_70 mdX7_in msX7_in rfl rfl (kX7_in ⟨rfl, ?_⟩)
    refine V_ifeqB (tgt := 49) dX7_readRun_41 (by decide) (fun c41 => ?_) (fun c41 => ?_)
    · replace c41 : ¬ (25 ≤ i ∧ i < 33) := fun h => c41 ⟨nI_nlt (by omega) (by omega), nI_nlt (by omega) (by omega)⟩
      refine V_iconst (v := nI 0) dX7_readRun_49 (by decide) ?_
      refine V_iasr dX7_readRun_50 (hM.1 29 (1, 67) rfl) (by omega) (by decide) ?_
      refine V_incN1 dX7_readRun_51 rfl ?_
      refine V_goto (tgt := 22) dX7_readRun_54 (by decide) ?_
      exact hni (by omega) _ (by rw [va_up_no _ _ (by decide)]; exact e21) (by rw [va_up_no _ _ (by decide)]; exact e23) (by rw [va_up_no _ _ (by decide)]; exact e25) (by rw [va_up_no _ _ (by decide)]; exact e26) (by rw [va_up_no _ _ (by decide)]; exact e28) (hkeep.u (by decide) _) (fun j hj => by
        rw [va_up_eq]
        by_cases e : j = i
        · rw [e, upd_eq, if_neg c41]
        · rw [upd_no _ _ e]; exact e29 j (by omega))
    · replace c41 : 25 ≤ i ∧ i < 33 := ⟨Nat.le_of_not_lt fun q => c41.1 (nI_lt q (by omega)), Nat.lt_of_not_le fun q => c41.2 (nI_lt (by omega) (by omega))⟩
      refine V_ldc dX7_readRun_44 wkX7_135 ?_
      refine V_goto (tgt := 50) dX7_readRun_46 (by decide) ?_
      refine V_iasr dX7_readRun_50 (hM.1 29 (1, 67) rfl) (by omega) (by decide) ?_
      refine V_incN1 dX7_readRun_51 rfl ?_
      refine V_goto (tgt := 22) dX7_readRun_54 (by decide) ?_
      exact hni (by omega) _ (by rw [va_up_no _ _ (by decide)]; exact e21) (by rw [va_up_no _ _ (by decide)]; exact e23) (by rw [va_up_no _ _ (by decide)]; exact e25) (by rw [va_up_no _ _ (by decide)]; exact e26) (by rw [va_up_no _ _ (by decide)]; exact e28) (hkeep.u (by decide) _) (fun j hj => by
        rw [va_up_eq]
        by_cases e : j = i
        · rw [e, upd_eq, if_pos c41]
        · rw [upd_no _ _ e]; exact e29 j (by omega))
theorem kX7_run (hM : xMo Y G) {n : Nat} (hn : S 0 5 = nI n) (hn2 : n ≤ 110) (hby : ∀ j, j < n → ¬ pBy (S 5) n j = -1) (h0 : ∀ f pl S2, pRun (S 5) n = .inl (f, pl) → ((∀ c, c ≠ 0 → c ≠ 18 → c ≠ 19 → c ≠ 28 → c ≠ 29 → c ≠ 30 → c ≠ 31 → c ≠ 32 → S2 c = S c) ∧ ∀ k, k < 21 → k ≠ 5 → k ≠ 6 → S2 0 k = S 0 k) → S2 0 5 = 0 → S2 0 6 = nI f → Q (some (xI (-1000100 - nI pl))) Y G (va_up N 40 S2)) (h1 : ∀ v ms ps f0 S2, pRun (S 5) n = .inr (v, ms, ps) → rRd f0 → ((∀ c, c ≠ 0 → c ≠ 18 → c ≠ 19 → c ≠ 28 → c ≠ 29 → c ≠ 30 → c ≠ 31 → c ≠ 32 → c ≠ 11 → c ≠ 13 → S2 c = S c) ∧ ∀ k, k < 21 → k ≠ 5 → k ≠ 7 → k ≠ 8 → k ≠ 9 → k ≠ 14 → S2 0 k = S 0 k) → S2 0 5 = 0 → S2 0 7 = v → S2 0 8 = nI ms.length → S2 0 9 = nI ps.length → S2 0 14 = 0 → (∀ j, j < 8 → S2 11 j = rSl (S 28) 0 ps j) → (∀ j, j < 67 → S2 13 j = rPl (rMl f0 0 ms) 0 ps j) → Q (some (xI (nI ps.length))) Y G (va_up N 40 S2)) : V RX7 false cX7_run 1 (some .int) none (d + 5) b 0 [some (xR 40 0)] [] Y G (va_up N 40 S) Q := by
  refine V_ald0 dX7_run_0 ?_
  refine V_iv0 dX7_run_1 wlX7_145 mdX7_readRun miX7_readRun rfl (hM.1 0 (0, 7) rfl) rfl rfl (kX7_readRun hM hn hn2 hby (fun f pl S1 e1 e2 e3 e4 ek => ⟨rfl, ?_⟩) (fun v ms ps f0 S1 e1 e2 e3 e4 e5 e6 e7 e8 ek => ⟨rfl, ?_⟩))
  · skip
    refine V_ald0 dX7_run_4 ?_
    refine V_iconst (v := 0) dX7_run_5 (by decide) ?_
    refine V_putIr dX7_run_6 fwX7_96 (hM.1 0 (0, 7) rfl) ?_
    refine V_ald0 dX7_run_9 ?_
    refine V_getIr dX7_run_10 flX7_103 (hM.1 0 (0, 7) rfl) ?_
    refine V_ifeq (tgt := 32) dX7_run_13 (by decide) (fun c13 => ?_) (fun c13 => ?_)
    · exact absurd (show S1 0 23 = 0 from c13) (by rw [e2]; exact e3)
    · skip
      refine V_ald0 dX7_run_16 ?_
      refine V_ald0 dX7_run_17 ?_
      refine V_getIr dX7_run_18 flX7_103 (hM.1 0 (0, 7) rfl) ?_
      refine V_eqI (show _ = nI f from e2) ?_
      refine V_putIr dX7_run_21 fwX7_148 (hM.1 0 (0, 7) rfl) ?_
      refine V_ldc dX7_run_24 wkX7_151 ?_
      refine V_ald0 dX7_run_26 ?_
      refine V_getIr dX7_run_27 flX7_106 (hM.1 0 (0, 7) rfl) ?_
      refine V_eqI (show _ = nI pl from e4) ?_
      refine V_isub dX7_run_30 ?_
      refine V_ireturn dX7_run_31 ⟨_, rfl, vp_nar_int _⟩ ?_
      exact h0 f pl _ e1 (by exact ⟨fun c a1 a2 a3 a4 a5 a6 a7 a8 => by rw [va_up_no _ _ a1, va_up_no _ _ a1]; exact ek.1 c a1 a2 a3 a4 a5 a6 a7 a8, fun k hk h5 h6 => by rw [va_up_eq, upd_no _ _ h6, va_up_eq, upd_no _ _ h5]; exact ek.2 k hk⟩) rfl rfl
  · skip
    refine V_ald0 dX7_run_4 ?_
    refine V_iconst (v := 0) dX7_run_5 (by decide) ?_
    refine V_putIr dX7_run_6 fwX7_96 (hM.1 0 (0, 7) rfl) ?_
    refine V_ald0 dX7_run_9 ?_
    refine V_getIr dX7_run_10 flX7_103 (hM.1 0 (0, 7) rfl) ?_
    refine V_ifeq (tgt := 32) dX7_run_13 (by decide) (fun c13 => ?_) (fun c13 => ?_)
    · skip
      refine V_ald0 dX7_run_32 ?_
      refine V_ald0 dX7_run_33 ?_
      refine V_getIr dX7_run_34 flX7_136 (hM.1 0 (0, 7) rfl) ?_
      refine V_eqI (show _ = v from e4) ?_
      refine V_putIr dX7_run_37 fwX7_152 (hM.1 0 (0, 7) rfl) ?_
      refine V_ald0 dX7_run_40 ?_
      refine V_ald0 dX7_run_41 ?_
      refine V_getIr dX7_run_42 flX7_120 (hM.1 0 (0, 7) rfl) ?_
      refine V_eqI (show _ = nI ms.length from e5) ?_
      refine V_putIr dX7_run_45 fwX7_74 (hM.1 0 (0, 7) rfl) ?_
      refine V_ald0 dX7_run_48 ?_
      refine V_ald0 dX7_run_49 ?_
      refine V_getIr dX7_run_50 flX7_132 (hM.1 0 (0, 7) rfl) ?_
      refine V_eqI (show _ = nI ps.length from e6) ?_
      refine V_putIr dX7_run_53 fwX7_77 (hM.1 0 (0, 7) rfl) ?_
      refine V_ald0 dX7_run_56 ?_
      refine V_getR dX7_run_57 flX7_47 (hM.1 0 (0, 7) rfl) (show G 40 0 27 = some (40, 28) from hM.2 27 (1, 8) rfl) ?_
      refine V_iconst (v := nI 0) dX7_run_60 (by decide) ?_
      refine V_ald0 dX7_run_61 ?_
      refine V_getR dX7_run_62 flX7_22 (hM.1 0 (0, 7) rfl) (show G 40 0 10 = some (40, 11) from hM.2 10 (1, 8) rfl) ?_
      refine V_iconst (v := nI 0) dX7_run_65 (by decide) ?_
      refine V_bipush (v := nI 8) dX7_run_66 (by decide) ?_
      refine V_sub 40 11 ?_
      refine V_is5 dX7_run_68 wlX7_155 mdX7_bring msX7_bring rfl rfl (kX7_bring (c := 11) (a := 28) (by decide) (hM.1 28 (1, 8) rfl) (hM.1 11 (1, 8) rfl) (by decide) (by decide) (by decide) (by decide) ⟨rfl, ?_⟩)
      refine V_ald0 dX7_run_71 ?_
      refine V_getR dX7_run_72 flX7_50 (hM.1 0 (0, 7) rfl) (show G 40 0 28 = some (40, 29) from hM.2 28 (1, 67) rfl) ?_
      refine V_iconst (v := nI 0) dX7_run_75 (by decide) ?_
      refine V_ald0 dX7_run_76 ?_
      refine V_getR dX7_run_77 flX7_25 (hM.1 0 (0, 7) rfl) (show G 40 0 12 = some (40, 13) from hM.2 12 (1, 67) rfl) ?_
      refine V_iconst (v := nI 0) dX7_run_80 (by decide) ?_
      refine V_bipush (v := nI 67) dX7_run_81 (by decide) ?_
      refine V_sub 40 13 ?_
      refine V_is5 dX7_run_83 wlX7_155 mdX7_bring msX7_bring rfl rfl (kX7_bring (c := 13) (a := 29) (by decide) (hM.1 29 (1, 67) rfl) (hM.1 13 (1, 67) rfl) (by decide) (by decide) (by decide) (by decide) ⟨rfl, ?_⟩)
      refine V_ald0 dX7_run_86 ?_
      refine V_iconst (v := 0) dX7_run_87 (by decide) ?_
      refine V_putIr dX7_run_88 fwX7_159 (hM.1 0 (0, 7) rfl) ?_
      refine V_ald0 dX7_run_91 ?_
      refine V_getIr dX7_run_92 flX7_77 (hM.1 0 (0, 7) rfl) ?_
      refine V_eqI (show _ = nI ps.length from rfl) ?_
      refine V_ireturn dX7_run_95 ⟨_, rfl, vp_nar_int _⟩ ?_
      refine h1 v ms ps f0 _ e1 e2 ?_ rfl rfl rfl rfl rfl ?_ ?_
      · exact ⟨fun c a1 a2 a3 a4 a5 a6 a7 a8 a11 a13 => by rw [va_up_no _ _ a1, va_up_no _ _ a13, va_up_no _ _ a11, va_up_no _ _ a1, va_up_no _ _ a1, va_up_no _ _ a1, va_up_no _ _ a1]; exact ek.1 c a1 a2 a3 a4 a5 a6 a7 a8, fun k hk h5 h7 h8 h9 h14 => by
          rw [va_up_eq, upd_no _ _ h14, va_up_no _ _ (by decide), va_up_no _ _ (by decide), va_up_eq, upd_no _ _ h9, va_up_eq, upd_no _ _ h8, va_up_eq, upd_no _ _ h7, va_up_eq, upd_no _ _ h5]; exact ek.2 k hk⟩
      · intro j hj
        rw [va_up_no _ _ (by decide), va_up_no _ _ (by decide), va_up_eq, rBring_at, if_pos ⟨Nat.zero_le _, by omega⟩, va_up_no _ _ (by decide), va_up_no _ _ (by decide), va_up_no _ _ (by decide), va_up_no _ _ (by decide), show 0 + (j - 0) = j by omega, e8]
      · intro j hj
        rw [va_up_no _ _ (by decide), va_up_eq, rBring_at, if_pos ⟨Nat.zero_le _, by omega⟩, va_up_no _ _ (by decide), va_up_no _ _ (by decide), va_up_no _ _ (by decide), va_up_no _ _ (by decide), va_up_no _ _ (by decide), show 0 + (j - 0) = j by omega, e7]
    · exact absurd (show S1 0 23 = 0 from e3) c13
end KM
