section KS
variable {d : Nat} {b : Nat × Nat} {Y : xY} {G : xG} {N : xM} {E T S : xT} {Q : Option xAV → xY → xG → xM → Prop}
theorem kX3_weighSets (hS : xSt Y G) (hN3 : N 3 = S) {mb pn : Nat} (hk : tOK mb pn S) {n m K : Nat} (hn : n ≤ 4) (hm : m ≤ 60) (hK : K ≤ 256) {pt : Nat} (hpt : tPtd S pn = nI pt) (hpt2 : pt < 256) {W : Nat → Int32} (hW1 : ∀ T k, k < 256 → k &&& pt = k → jBC (tBits (tRunOn mb m (tSwAll (tLike T S) (nI k) pn)) (nI 9) (nI 9) mb) - jBC (tBits (tRunOn mb m (tSwAll (tLike T S) (nI k) pn)) (nI 8) (nI 8) mb) = W k) (hW2 : ∀ k, k < 256 → W (k &&& pt) = W k) (hQ : ∀ T2 E2, (∀ s, s < K → bcN s ≤ n → E2 2 s = W s) → Q none Y G (va_up (va_up N 31 T2) 30 E2)) : V RX3 false cX3_weighSets 7 none none (d + 4) b 0 [some (xR 30 0), some (xR 3 0), some (xI (nI K)), some (xI (nI n)), some (xI (nI m)), none, none] [] Y G (va_up (va_up N 31 T) 30 E) Q := by
  refine V_ald1 dX3_weighSets_0 ?_
  refine V_iv0 dX3_weighSets_1 wlX3_70 mdX5_bitsPointed miX5_bitsPointed rfl ((hS.tr 3 rfl).1 0 (0, 5) rfl) rfl rfl (kX5_bitsPointedN (hS.tr 3 rfl) (by rw [va_up_no _ _ (by decide), va_up_no _ _ (by decide)]; exact hN3) hk.e3 hk.pn ⟨rfl, ?_⟩)
  refine V_eqI hpt ?_
  refine V_ist5 dX3_weighSets_4 rfl ?_
  refine V_iconst (v := nI 0) dX3_weighSets_6 (by decide) ?_
  refine V_ist6 dX3_weighSets_7 rfl ?_
  refine xDown (P := fun i => ∀ T E, (∀ s, s < i → bcN s ≤ n → E 2 s = W s) → V RX3 false cX3_weighSets 7 none none (d + 4) b 9 [some (xR 30 0), some (xR 3 0), some (xI (nI K)), some (xI (nI n)), some (xI (nI m)), some (xI (nI pt)), some (xI (nI i))] [] Y G (va_up (va_up N 31 T) 30 E) Q) K ?_ 0 (Nat.zero_le _) _ _ (fun s hs => absurd hs (by omega)) 
  intro i hii hni T E hE
  refine V_ild6 dX3_weighSets_9 ?_
  refine V_ild2 dX3_weighSets_11 ?_
  refine V_icmpgeN (tgt := 109) dX3_weighSets_12 (by decide) (by omega) (by omega) (fun c12 => ?_) (fun c12 => ?_)
  · skip
    refine V_return dX3_weighSets_109 rfl ?_
    exact hQ _ _ (fun s hs hb => hE s (by omega) hb)
  · skip
    refine V_ild6 dX3_weighSets_15 ?_
    refine V_ild5 dX3_weighSets_17 ?_
    refine V_iconst (v := (-1)) dX3_weighSets_19 (by decide) ?_
    refine V_ixor dX3_weighSets_20 ?_
    refine V_iand dX3_weighSets_21 ?_
    refine V_ifeq (tgt := 45) dX3_weighSets_22 (by decide) (fun c22 => ?_) (fun c22 => ?_)
    · replace c22 := (and_not (by omega) (by omega)).mp c22
      refine V_ild6 dX3_weighSets_45 ?_
      refine V_is1 dX3_weighSets_47 wlX3_85 mdJ6_bitCount_0f7a4 msJ6_bitCount_0f7a4 rfl rfl (kJ6_bitCount ⟨rfl, ?_⟩)
      rw [bcJ i (by omega)]
      refine V_ild3 dX3_weighSets_50 ?_
      refine V_icmpgtN (tgt := 103) dX3_weighSets_51 (by decide) (by have := bcL i; omega) (by omega) (fun c51 => ?_) (fun c51 => ?_)
      · skip
        refine V_incN6 dX3_weighSets_103 rfl ?_
        refine V_goto (tgt := 9) dX3_weighSets_106 (by decide) ?_
        exact hni (by omega) _ _ (fun s hs hb => by
          by_cases e : s = i
          · rw [e] at hb; exact absurd hb (by omega)
          · exact hE s (by omega) hb)
      · skip
        refine V_ald0 dX3_weighSets_54 ?_
        refine V_getR dX3_weighSets_55 flX3_12 (hS.r30.1 0 (0, 3) rfl) (hS.r30.2 0 (31, 0) rfl) ?_
        refine V_ald1 dX3_weighSets_58 ?_
        refine V_comm (by decide) ?_
        refine V_iv1 dX3_weighSets_59 wlX3_51 mdX5_becomeLike miX5_becomeLike rfl ((hS.tr 31 rfl).1 0 (0, 5) rfl) rfl rfl (kX5_becomeLike (hS.tr 31 rfl) (hS.tr 3 rfl) (by decide) (by first | exact hN3 | (rw [va_up_no _ _ (by decide)]; exact hN3)) ⟨rfl, ?_⟩)
        refine V_comm (by decide) ?_
        refine V_ald0 dX3_weighSets_62 ?_
        refine V_getR dX3_weighSets_63 flX3_12 (hS.r30.1 0 (0, 3) rfl) (hS.r30.2 0 (31, 0) rfl) ?_
        refine V_ild6 dX3_weighSets_66 ?_
        refine V_comm (by decide) ?_
        refine V_iv1 dX3_weighSets_68 wlX3_74 mdX5_swingAll miX5_swingAll rfl ((hS.tr 31 rfl).1 0 (0, 5) rfl) rfl rfl (kX5_swingAll (hS.tr 31 rfl) (hk.like T).e3 hk.pn ⟨rfl, ?_⟩)
        refine V_comm (by decide) ?_
        refine V_ald0 dX3_weighSets_71 ?_
        refine V_ild4 dX3_weighSets_72 ?_
        refine V_comm (by decide) ?_
        refine V_iv1 dX3_weighSets_74 wlX3_55 mdX3_goOn miX3_goOn rfl (hS.r30.1 0 (0, 3) rfl) rfl rfl (kX3_goOn hS ((hk.like T).swAll (nI i) pn (Nat.le_refl _)) (by omega) ⟨rfl, ?_⟩)
        refine V_comm (by decide) ?_
        refine V_ald0 dX3_weighSets_77 ?_
        refine V_getR dX3_weighSets_78 flX3_18 (hS.r30.1 0 (0, 3) rfl) (hS.r30.2 1 (30, 2) rfl) ?_
        refine V_ild6 dX3_weighSets_81 ?_
        refine V_ald0 dX3_weighSets_83 ?_
        refine V_getR dX3_weighSets_84 flX3_12 (hS.r30.1 0 (0, 3) rfl) (hS.r30.2 0 (31, 0) rfl) ?_
        refine V_bipush (v := nI 9) dX3_weighSets_87 (by decide) ?_
        refine V_comm (by decide) ?_
        refine V_iv1 dX3_weighSets_89 wlX3_77 mdX5_manyAt miX5_manyAt rfl ((hS.tr 31 rfl).1 0 (0, 5) rfl) rfl rfl (kX5_manyAt (hS.tr 31 rfl) (((hk.like T).swAll (nI i) pn (Nat.le_refl _)).runOn m).e2 hk.mb ⟨rfl, ?_⟩)
        refine V_comm (by decide) ?_
        refine V_ald0 dX3_weighSets_92 ?_
        refine V_getR dX3_weighSets_93 flX3_12 (hS.r30.1 0 (0, 3) rfl) (hS.r30.2 0 (31, 0) rfl) ?_
        refine V_bipush (v := nI 8) dX3_weighSets_96 (by decide) ?_
        refine V_comm (by decide) ?_
        refine V_iv1 dX3_weighSets_98 wlX3_77 mdX5_manyAt miX5_manyAt rfl ((hS.tr 31 rfl).1 0 (0, 5) rfl) rfl rfl (kX5_manyAt (hS.tr 31 rfl) (((hk.like T).swAll (nI i) pn (Nat.le_refl _)).runOn m).e2 hk.mb ⟨rfl, ?_⟩)
        refine V_comm (by decide) ?_
        refine V_isub dX3_weighSets_101 ?_
        rw [show jBC _ - jBC _ = W i from hW1 T i (by omega) c22]
        refine V_iasr dX3_weighSets_102 (hS.r30.1 2 (1, 256) rfl) (by omega) (by decide) ?_
        refine V_incN6 dX3_weighSets_103 rfl ?_
        refine V_goto (tgt := 9) dX3_weighSets_106 (by decide) ?_
        exact hni (by omega) _ _ (fun s hs hb => by
          rw [va_up_eq]
          by_cases e : s = i
          · rw [e, upd_eq]
          · rw [upd_no _ _ e]; exact hE s (by omega) hb)
    · replace c22 : ¬ i &&& pt = i := fun e => c22 ((and_not (by omega) (by omega)).mpr e)
      have hsm : i &&& pt < i := by have : i &&& pt ≤ i := Nat.and_le_left; omega
      refine V_ald0 dX3_weighSets_25 ?_
      refine V_getR dX3_weighSets_26 flX3_18 (hS.r30.1 0 (0, 3) rfl) (hS.r30.2 1 (30, 2) rfl) ?_
      refine V_ild6 dX3_weighSets_29 ?_
      refine V_ald0 dX3_weighSets_31 ?_
      refine V_getR dX3_weighSets_32 flX3_18 (hS.r30.1 0 (0, 3) rfl) (hS.r30.2 1 (30, 2) rfl) ?_
      refine V_ild6 dX3_weighSets_35 ?_
      refine V_ild5 dX3_weighSets_37 ?_
      refine V_iand dX3_weighSets_39 ?_
      rw [nI_and]
      refine V_iar dX3_weighSets_40 (hS.r30.1 2 (1, 256) rfl) (by omega) (by decide) ?_
      refine V_iasr dX3_weighSets_41 (hS.r30.1 2 (1, 256) rfl) (by omega) (by decide) ?_
      refine V_goto (tgt := 103) dX3_weighSets_42 (by decide) ?_
      refine V_incN6 dX3_weighSets_103 rfl ?_
      refine V_goto (tgt := 9) dX3_weighSets_106 (by decide) ?_
      exact hni (by omega) _ _ (fun s hs hb => by
        rw [va_up_eq]
        by_cases e : s = i
        · rw [e] at hb ⊢; rw [upd_eq, hE _ hsm (Nat.le_trans (bcD i pt) hb)]; exact hW2 i (by omega)
        · rw [upd_no _ _ e]; exact hE s (by omega) hb)
theorem kX3_playTurn (hS : xSt Y G) {pn K t : Nat} (hpn : pn ≤ 8) (hK : K ≤ 256) (ht : t ≤ 4) (hX : ∀ s, s < K → ∀ p, p < pn → s ^^^ 2 ^ p < K) {U : Nat → Int32} (hE : ∀ s, s < K → bcN s ≤ t + 1 → E 2 s = U s) (hQ : ∀ E2, (∀ s, s < K → bcN s ≤ t → E2 2 s = chF (t % 2 == 0) U s pn) → Q none Y G (va_up N 30 E2)) : V RX3 false cX3_playTurn 9 none none (d + 1) b 0 [some (xR 30 0), some (xI (nI pn)), some (xI (nI K)), some (xI (nI t)), none, none, none, none, none] [] Y G (va_up N 30 E) Q := by
  refine V_ild3 dX3_playTurn_0 ?_
  refine V_iconst (v := nI 2) dX3_playTurn_1 (by decide) ?_
  refine V_irem dX3_playTurn_2 (by decide) ?_
  rw [show nI t - nI t / nI 2 * nI 2 = nI (t % 2) from (show ∀ t, t ≤ 4 → nI t - nI t / nI 2 * nI 2 = nI (t % 2) by decide) t ht]
  refine V_ifne (tgt := 10) dX3_playTurn_3 (by decide) (fun cg => ?_) (fun cg => ?_)
  · replace cg : (t % 2 == 0) = false := beq_eq_false_iff_ne.mpr (fun e => cg (by rw [e]; decide))
    refine V_iconst (v := 0) dX3_playTurn_10 (by decide) ?_
    refine V_ist4 dX3_playTurn_11 rfl ?_
    refine V_iconst (v := nI 0) dX3_playTurn_13 (by decide) ?_
    refine V_ist5 dX3_playTurn_14 rfl ?_
    refine xDown (P := fun i => ∀ E, (∀ s, s < K → bcN s ≤ t + 1 → E 2 s = U s) → (∀ s, s < i → bcN s ≤ t → E 3 s = chF (t % 2 == 0) U s pn) → ∀ l6 l7 l8, V RX3 false cX3_playTurn 9 none none (d + 1) b 16 [some (xR 30 0), some (xI (nI pn)), some (xI (nI K)), some (xI (nI t)), some (xI 0), some (xI (nI i)), l6, l7, l8] [] Y G (va_up N 30 E) Q) K ?_ 0 (Nat.zero_le _) _ hE (fun s hs => absurd hs (by omega)) none none none
    intro i hii hni E hE hF l6 l7 l8
    refine V_ild5 dX3_playTurn_16 ?_
    refine V_ild2 dX3_playTurn_18 ?_
    refine V_icmpgeN (tgt := 108) dX3_playTurn_19 (by decide) (by omega) (by omega) (fun c19 => ?_) (fun c19 => ?_)
    · skip
      rw [show i = K by omega] at hF
      refine V_ald0 dX3_playTurn_108 ?_
      refine V_getR dX3_playTurn_109 flX3_22 (hS.r30.1 0 (0, 3) rfl) (hS.r30.2 2 (30, 3) rfl) ?_
      refine V_iconst (v := nI 0) dX3_playTurn_112 (by decide) ?_
      refine V_ald0 dX3_playTurn_113 ?_
      refine V_getR dX3_playTurn_114 flX3_18 (hS.r30.1 0 (0, 3) rfl) (hS.r30.2 1 (30, 2) rfl) ?_
      refine V_iconst (v := nI 0) dX3_playTurn_117 (by decide) ?_
      refine V_ild2 dX3_playTurn_118 ?_
      refine V_ac2 dX3_playTurn_119 wlX3_122 (hS.r30.1 3 (1, 256) rfl) (hS.r30.1 2 (1, 256) rfl) (by omega) (by omega) (by omega) rfl ?_
      refine V_return dX3_playTurn_122 rfl ?_
      exact hQ _ (fun s hs hb => by
        rw [va_up_eq]
        unfold va_cpy
        rw [if_pos (by omega), show 0 + (s - 0) = s by omega]
        exact hF s hs hb)
    · skip
      refine V_ald0 dX3_playTurn_22 ?_
      refine V_getR dX3_playTurn_23 flX3_18 (hS.r30.1 0 (0, 3) rfl) (hS.r30.2 1 (30, 2) rfl) ?_
      refine V_ild5 dX3_playTurn_26 ?_
      refine V_iar dX3_playTurn_28 (hS.r30.1 2 (1, 256) rfl) (by omega) (by decide) ?_
      refine V_ist6 dX3_playTurn_29 rfl ?_
      by_cases hbc : bcN i ≤ t
      · skip
        rw [hE i (by omega) (by omega)]
        refine V_iconst (v := nI 0) dX3_playTurn_31 (by decide) ?_
        refine V_ist7 dX3_playTurn_32 rfl ?_
        refine xDown (P := fun j => ∀ l8, V RX3 false cX3_playTurn 9 none none (d + 1) b 34 [some (xR 30 0), some (xI (nI pn)), some (xI (nI K)), some (xI (nI t)), some (xI 0), some (xI (nI i)), some (xI (chF (t % 2 == 0) U i j)), some (xI (nI j)), l8] [] Y G (va_up N 30 E) Q) pn ?_ 0 (Nat.zero_le _) l8
        intro j hij hnj l8
        refine V_ild7 dX3_playTurn_34 ?_
        refine V_ild1 dX3_playTurn_36 ?_
        refine V_icmpgeN (tgt := 93) dX3_playTurn_37 (by decide) (by omega) (by omega) (fun c37 => ?_) (fun c37 => ?_)
        · skip
          rw [show j = pn by omega]
          refine V_ald0 dX3_playTurn_93 ?_
          refine V_getR dX3_playTurn_94 flX3_22 (hS.r30.1 0 (0, 3) rfl) (hS.r30.2 2 (30, 3) rfl) ?_
          refine V_ild5 dX3_playTurn_97 ?_
          refine V_ild6 dX3_playTurn_99 ?_
          refine V_iasr dX3_playTurn_101 (hS.r30.1 3 (1, 256) rfl) (by omega) (by decide) ?_
          refine V_incN5 dX3_playTurn_102 rfl ?_
          refine V_goto (tgt := 16) dX3_playTurn_105 (by decide) ?_
          exact hni (by omega) _ (fun s hs hb => by rw [va_up_no _ _ (by decide)]; exact hE s hs hb) (fun s hs hb => by
            rw [va_up_eq]
            by_cases e : s = i
            · rw [e, upd_eq]
            · rw [upd_no _ _ e]; exact hF s (by omega) hb) _ _ _
        · skip
          refine V_ild5 dX3_playTurn_40 ?_
          refine V_is1 dX3_playTurn_42 wlX3_85 mdJ6_bitCount_0f7a4 msJ6_bitCount_0f7a4 rfl rfl (kJ6_bitCount ⟨rfl, ?_⟩)
          rw [bcJ i (by omega)]
          refine V_ild3 dX3_playTurn_45 ?_
          refine V_icmpgtN (tgt := 93) dX3_playTurn_46 (by decide) (by have := bcL i; omega) (by omega) (fun c46 => ?_) (fun c46 => ?_)
          · exact absurd c46 (by omega)
          · skip
            refine V_ald0 dX3_playTurn_49 ?_
            refine V_getR dX3_playTurn_50 flX3_18 (hS.r30.1 0 (0, 3) rfl) (hS.r30.2 1 (30, 2) rfl) ?_
            refine V_ild5 dX3_playTurn_53 ?_
            refine V_iconst (v := nI 1) dX3_playTurn_55 (by decide) ?_
            refine V_ild7 dX3_playTurn_56 ?_
            refine V_ishl dX3_playTurn_58 ?_
            refine V_ixor dX3_playTurn_59 ?_
            rw [nI_1shl (by omega), nI_xor]
            refine V_iar dX3_playTurn_60 (hS.r30.1 2 (1, 256) rfl) (by have := hX i (by omega) j (by omega); omega) (by decide) ?_
            refine V_eqI (hE _ (hX i (by omega) j (by omega)) (by have := bcX i (by omega) j (by omega); omega)) ?_
            refine V_ist8 dX3_playTurn_61 rfl ?_
            refine V_ild4 dX3_playTurn_63 ?_
            refine V_ifeq (tgt := 78) dX3_playTurn_65 (by decide) (fun _ => ?_) (fun c65 => absurd rfl c65)
            refine V_ild6 dX3_playTurn_78 ?_
            refine V_ild8 dX3_playTurn_80 ?_
            refine V_mmin dX3_playTurn_82 wlX3_148 rfl ?_
            refine V_ist6 dX3_playTurn_85 rfl ?_
            refine V_incN7 dX3_playTurn_87 rfl ?_
            refine V_goto (tgt := 34) dX3_playTurn_90 (by decide) ?_
            have hnj := hnj (by omega)
            rw [chF, if_neg (by rw [cg]; decide)] at hnj
            exact hnj _
      · skip
        refine V_iconst (v := nI 0) dX3_playTurn_31 (by decide) ?_
        refine V_ist7 dX3_playTurn_32 rfl ?_
        refine V_ild7 dX3_playTurn_34 ?_
        refine V_ild1 dX3_playTurn_36 ?_
        refine V_icmpgeN (tgt := 93) dX3_playTurn_37 (by decide) (by omega) (by omega) (fun c37 => ?_) (fun c37 => ?_)
        · skip
          refine V_ald0 dX3_playTurn_93 ?_
          refine V_getR dX3_playTurn_94 flX3_22 (hS.r30.1 0 (0, 3) rfl) (hS.r30.2 2 (30, 3) rfl) ?_
          refine V_ild5 dX3_playTurn_97 ?_
          refine V_ild6 dX3_playTurn_99 ?_
          refine V_iasr dX3_playTurn_101 (hS.r30.1 3 (1, 256) rfl) (by omega) (by decide) ?_
          refine V_incN5 dX3_playTurn_102 rfl ?_
          refine V_goto (tgt := 16) dX3_playTurn_105 (by decide) ?_
          exact hni (by omega) _ (fun s hs hb => by rw [va_up_no _ _ (by decide)]; exact hE s hs hb) (fun s hs hb => by
            rw [va_up_eq]
            by_cases e : s = i
            · rw [e] at hb; exact absurd hb hbc
            · rw [upd_no _ _ e]; exact hF s (by omega) hb) _ _ _
        · skip
          refine V_ild5 dX3_playTurn_40 ?_
          refine V_is1 dX3_playTurn_42 wlX3_85 mdJ6_bitCount_0f7a4 msJ6_bitCount_0f7a4 rfl rfl (kJ6_bitCount ⟨rfl, ?_⟩)
          rw [bcJ i (by omega)]
          refine V_ild3 dX3_playTurn_45 ?_
          refine V_icmpgtN (tgt := 93) dX3_playTurn_46 (by decide) (by have := bcL i; omega) (by omega) (fun c46 => ?_) (fun c46 => ?_)
          · skip
            refine V_ald0 dX3_playTurn_93 ?_
            refine V_getR dX3_playTurn_94 flX3_22 (hS.r30.1 0 (0, 3) rfl) (hS.r30.2 2 (30, 3) rfl) ?_
            refine V_ild5 dX3_playTurn_97 ?_
            refine V_ild6 dX3_playTurn_99 ?_
            refine V_iasr dX3_playTurn_101 (hS.r30.1 3 (1, 256) rfl) (by omega) (by decide) ?_
            refine V_incN5 dX3_playTurn_102 rfl ?_
            refine V_goto (tgt := 16) dX3_playTurn_105 (by decide) ?_
            exact hni (by omega) _ (fun s hs hb => by rw [va_up_no _ _ (by decide)]; exact hE s hs hb) (fun s hs hb => by
              rw [va_up_eq]
              by_cases e : s = i
              · rw [e] at hb; exact absurd hb hbc
              · rw [upd_no _ _ e]; exact hF s (by omega) hb) _ _ _
          · exact absurd c46 (by omega)
  · replace cg : (t % 2 == 0) = true := by
      rcases Nat.mod_two_eq_zero_or_one t with e | e
      · rw [e]; rfl
      · rw [e] at cg; exact absurd cg (by decide)
    refine V_iconst (v := 1) dX3_playTurn_6 (by decide) ?_
    refine V_goto (tgt := 11) dX3_playTurn_7 (by decide) ?_
    refine V_ist4 dX3_playTurn_11 rfl ?_
    refine V_iconst (v := nI 0) dX3_playTurn_13 (by decide) ?_
    refine V_ist5 dX3_playTurn_14 rfl ?_
    refine xDown (P := fun i => ∀ E, (∀ s, s < K → bcN s ≤ t + 1 → E 2 s = U s) → (∀ s, s < i → bcN s ≤ t → E 3 s = chF (t % 2 == 0) U s pn) → ∀ l6 l7 l8, V RX3 false cX3_playTurn 9 none none (d + 1) b 16 [some (xR 30 0), some (xI (nI pn)), some (xI (nI K)), some (xI (nI t)), some (xI 1), some (xI (nI i)), l6, l7, l8] [] Y G (va_up N 30 E) Q) K ?_ 0 (Nat.zero_le _) _ hE (fun s hs => absurd hs (by omega)) none none none
    intro i hii hni E hE hF l6 l7 l8
    refine V_ild5 dX3_playTurn_16 ?_
    refine V_ild2 dX3_playTurn_18 ?_
    refine V_icmpgeN (tgt := 108) dX3_playTurn_19 (by decide) (by omega) (by omega) (fun c19 => ?_) (fun c19 => ?_)
    · skip
      rw [show i = K by omega] at hF
      refine V_ald0 dX3_playTurn_108 ?_
      refine V_getR dX3_playTurn_109 flX3_22 (hS.r30.1 0 (0, 3) rfl) (hS.r30.2 2 (30, 3) rfl) ?_
      refine V_iconst (v := nI 0) dX3_playTurn_112 (by decide) ?_
      refine V_ald0 dX3_playTurn_113 ?_
      refine V_getR dX3_playTurn_114 flX3_18 (hS.r30.1 0 (0, 3) rfl) (hS.r30.2 1 (30, 2) rfl) ?_
      refine V_iconst (v := nI 0) dX3_playTurn_117 (by decide) ?_
      refine V_ild2 dX3_playTurn_118 ?_
      refine V_ac2 dX3_playTurn_119 wlX3_122 (hS.r30.1 3 (1, 256) rfl) (hS.r30.1 2 (1, 256) rfl) (by omega) (by omega) (by omega) rfl ?_
      refine V_return dX3_playTurn_122 rfl ?_
      exact hQ _ (fun s hs hb => by
        rw [va_up_eq]
        unfold va_cpy
        rw [if_pos (by omega), show 0 + (s - 0) = s by omega]
        exact hF s hs hb)
    · skip
      refine V_ald0 dX3_playTurn_22 ?_
      refine V_getR dX3_playTurn_23 flX3_18 (hS.r30.1 0 (0, 3) rfl) (hS.r30.2 1 (30, 2) rfl) ?_
      refine V_ild5 dX3_playTurn_26 ?_
      refine V_iar dX3_playTurn_28 (hS.r30.1 2 (1, 256) rfl) (by omega) (by decide) ?_
      refine V_ist6 dX3_playTurn_29 rfl ?_
      by_cases hbc : bcN i ≤ t
      · skip
        rw [hE i (by omega) (by omega)]
        refine V_iconst (v := nI 0) dX3_playTurn_31 (by decide) ?_
        refine V_ist7 dX3_playTurn_32 rfl ?_
        refine xDown (P := fun j => ∀ l8, V RX3 false cX3_playTurn 9 none none (d + 1) b 34 [some (xR 30 0), some (xI (nI pn)), some (xI (nI K)), some (xI (nI t)), some (xI 1), some (xI (nI i)), some (xI (chF (t % 2 == 0) U i j)), some (xI (nI j)), l8] [] Y G (va_up N 30 E) Q) pn ?_ 0 (Nat.zero_le _) l8
        intro j hij hnj l8
        refine V_ild7 dX3_playTurn_34 ?_
        refine V_ild1 dX3_playTurn_36 ?_
        refine V_icmpgeN (tgt := 93) dX3_playTurn_37 (by decide) (by omega) (by omega) (fun c37 => ?_) (fun c37 => ?_)
        · skip
          rw [show j = pn by omega]
          refine V_ald0 dX3_playTurn_93 ?_
          refine V_getR dX3_playTurn_94 flX3_22 (hS.r30.1 0 (0, 3) rfl) (hS.r30.2 2 (30, 3) rfl) ?_
          refine V_ild5 dX3_playTurn_97 ?_
          refine V_ild6 dX3_playTurn_99 ?_
          refine V_iasr dX3_playTurn_101 (hS.r30.1 3 (1, 256) rfl) (by omega) (by decide) ?_
          refine V_incN5 dX3_playTurn_102 rfl ?_
          refine V_goto (tgt := 16) dX3_playTurn_105 (by decide) ?_
          exact hni (by omega) _ (fun s hs hb => by rw [va_up_no _ _ (by decide)]; exact hE s hs hb) (fun s hs hb => by
            rw [va_up_eq]
            by_cases e : s = i
            · rw [e, upd_eq]
            · rw [upd_no _ _ e]; exact hF s (by omega) hb) _ _ _
        · skip
          refine V_ild5 dX3_playTurn_40 ?_
          refine V_is1 dX3_playTurn_42 wlX3_85 mdJ6_bitCount_0f7a4 msJ6_bitCount_0f7a4 rfl rfl (kJ6_bitCount ⟨rfl, ?_⟩)
          rw [bcJ i (by omega)]
          refine V_ild3 dX3_playTurn_45 ?_
          refine V_icmpgtN (tgt := 93) dX3_playTurn_46 (by decide) (by have := bcL i; omega) (by omega) (fun c46 => ?_) (fun c46 => ?_)
          · exact absurd c46 (by omega)
          · skip
            refine V_ald0 dX3_playTurn_49 ?_
            refine V_getR dX3_playTurn_50 flX3_18 (hS.r30.1 0 (0, 3) rfl) (hS.r30.2 1 (30, 2) rfl) ?_
            refine V_ild5 dX3_playTurn_53 ?_
            refine V_iconst (v := nI 1) dX3_playTurn_55 (by decide) ?_
            refine V_ild7 dX3_playTurn_56 ?_
            refine V_ishl dX3_playTurn_58 ?_
            refine V_ixor dX3_playTurn_59 ?_
            rw [nI_1shl (by omega), nI_xor]
            refine V_iar dX3_playTurn_60 (hS.r30.1 2 (1, 256) rfl) (by have := hX i (by omega) j (by omega); omega) (by decide) ?_
            refine V_eqI (hE _ (hX i (by omega) j (by omega)) (by have := bcX i (by omega) j (by omega); omega)) ?_
            refine V_ist8 dX3_playTurn_61 rfl ?_
            refine V_ild4 dX3_playTurn_63 ?_
            refine V_ifeq (tgt := 78) dX3_playTurn_65 (by decide) (fun c65 => absurd c65 (by decide)) (fun _ => ?_)
            refine V_ild6 dX3_playTurn_68 ?_
            refine V_ild8 dX3_playTurn_70 ?_
            refine V_mmax dX3_playTurn_72 wlX3_142 rfl ?_
            refine V_goto (tgt := 85) dX3_playTurn_75 (by decide) ?_
            refine V_ist6 dX3_playTurn_85 rfl ?_
            refine V_incN7 dX3_playTurn_87 rfl ?_
            refine V_goto (tgt := 34) dX3_playTurn_90 (by decide) ?_
            have hnj := hnj (by omega)
            rw [chF, if_pos cg] at hnj
            exact hnj _
      · skip
        refine V_iconst (v := nI 0) dX3_playTurn_31 (by decide) ?_
        refine V_ist7 dX3_playTurn_32 rfl ?_
        refine V_ild7 dX3_playTurn_34 ?_
        refine V_ild1 dX3_playTurn_36 ?_
        refine V_icmpgeN (tgt := 93) dX3_playTurn_37 (by decide) (by omega) (by omega) (fun c37 => ?_) (fun c37 => ?_)
        · skip
          refine V_ald0 dX3_playTurn_93 ?_
          refine V_getR dX3_playTurn_94 flX3_22 (hS.r30.1 0 (0, 3) rfl) (hS.r30.2 2 (30, 3) rfl) ?_
          refine V_ild5 dX3_playTurn_97 ?_
          refine V_ild6 dX3_playTurn_99 ?_
          refine V_iasr dX3_playTurn_101 (hS.r30.1 3 (1, 256) rfl) (by omega) (by decide) ?_
          refine V_incN5 dX3_playTurn_102 rfl ?_
          refine V_goto (tgt := 16) dX3_playTurn_105 (by decide) ?_
          exact hni (by omega) _ (fun s hs hb => by rw [va_up_no _ _ (by decide)]; exact hE s hs hb) (fun s hs hb => by
            rw [va_up_eq]
            by_cases e : s = i
            · rw [e] at hb; exact absurd hb hbc
            · rw [upd_no _ _ e]; exact hF s (by omega) hb) _ _ _
        · skip
          refine V_ild5 dX3_playTurn_40 ?_
          refine V_is1 dX3_playTurn_42 wlX3_85 mdJ6_bitCount_0f7a4 msJ6_bitCount_0f7a4 rfl rfl (kJ6_bitCount ⟨rfl, ?_⟩)
          rw [bcJ i (by omega)]
          refine V_ild3 dX3_playTurn_45 ?_
          refine V_icmpgtN (tgt := 93) dX3_playTurn_46 (by decide) (by have := bcL i; omega) (by omega) (fun c46 => ?_) (fun c46 => ?_)
          · skip
            refine V_ald0 dX3_playTurn_93 ?_
            refine V_getR dX3_playTurn_94 flX3_22 (hS.r30.1 0 (0, 3) rfl) (hS.r30.2 2 (30, 3) rfl) ?_
            refine V_ild5 dX3_playTurn_97 ?_
            refine V_ild6 dX3_playTurn_99 ?_
            refine V_iasr dX3_playTurn_101 (hS.r30.1 3 (1, 256) rfl) (by omega) (by decide) ?_
            refine V_incN5 dX3_playTurn_102 rfl ?_
            refine V_goto (tgt := 16) dX3_playTurn_105 (by decide) ?_
            exact hni (by omega) _ (fun s hs hb => by rw [va_up_no _ _ (by decide)]; exact hE s hs hb) (fun s hs hb => by
              rw [va_up_eq]
              by_cases e : s = i
              · rw [e] at hb; exact absurd hb hbc
              · rw [upd_no _ _ e]; exact hF s (by omega) hb) _ _ _
          · exact absurd c46 (by omega)
theorem kX3_playTurns (hS : xSt Y G) (hN3 : N 3 = S) {mb pn : Nat} (hk : tOK mb pn S) {n m K : Nat} (hn : n ≤ 4) (hm : m ≤ 60) (hK : K = 2 ^ pn) {pt : Nat} (hpt : tPtd S pn = nI pt) (hpt2 : pt < 256) {W : Nat → Int32} (hW1 : ∀ T k, k < 256 → k &&& pt = k → jBC (tBits (tRunOn mb m (tSwAll (tLike T S) (nI k) pn)) (nI 9) (nI 9) mb) - jBC (tBits (tRunOn mb m (tSwAll (tLike T S) (nI k) pn)) (nI 8) (nI 8) mb) = W k) (hW2 : ∀ k, k < 256 → W (k &&& pt) = W k) (hQ : ∀ T2 E2, Q (some (xI (tU pn W n n 0))) Y G (va_up (va_up N 31 T2) 30 E2)) : V RX3 false cX3_playTurns 6 (some .int) none (d + 5) b 0 [some (xR 30 0), some (xR 3 0), some (xI (nI n)), some (xI (nI m)), none, none] [] Y G (va_up (va_up N 31 T) 30 E) Q := by
  have hpn := hk.pn
  have hK2 : K ≤ 256 := by rw [hK]; exact Nat.pow_le_pow_right (n := 2) (by decide) hpn
  have hK0 : 0 < K := by rw [hK]; exact Nat.two_pow_pos _
  have hX : ∀ s, s < K → ∀ p, p < pn → s ^^^ 2 ^ p < K := fun s hs p hp => by
    rw [hK] at hs ⊢
    exact Nat.xor_lt_two_pow hs (Nat.pow_lt_pow_right (by decide) hp)
  refine V_iconst (v := nI 1) dX3_playTurns_0 (by decide) ?_
  refine V_ald1 dX3_playTurns_1 ?_
  refine V_getI dX3_playTurns_2 flX3_131 ((hS.tr 3 rfl).1 0 (0, 5) rfl) ?_
  refine V_eqI (by rw [va_up_no _ _ (by decide), va_up_no _ _ (by decide), hN3]; exact hk.e3 : _ = nI pn) ?_
  refine V_ishl dX3_playTurns_5 ?_
  rw [nI_1shl (by omega), ← hK]
  refine V_ist4 dX3_playTurns_6 rfl ?_
  refine V_ald0 dX3_playTurns_8 ?_
  refine V_ald1 dX3_playTurns_9 ?_
  refine V_ild4 dX3_playTurns_10 ?_
  refine V_ild2 dX3_playTurns_12 ?_
  refine V_ild3 dX3_playTurns_13 ?_
  refine V_iv4 dX3_playTurns_14 wlX3_134 mdX3_weighSets miX3_weighSets rfl (hS.r30.1 0 (0, 3) rfl) rfl rfl (kX3_weighSets hS hN3 hk hn (by omega) hK2 hpt hpt2 hW1 hW2 (fun T E hE => ⟨rfl, ?_⟩))
  refine V_ild2 dX3_playTurns_17 ?_
  refine V_iconst (v := nI 1) dX3_playTurns_18 (by decide) ?_
  refine V_isub dX3_playTurns_19 ?_
  refine V_ist5 dX3_playTurns_20 rfl ?_
  rw [show nI n - nI 1 = (if 0 = n then -1 else nI (n - 1 - 0)) by
    by_cases h : 0 = n
    · rw [if_pos h, ← h]; decide
    · rw [if_neg h, pk_sub (by omega)]; rfl]
  refine xDown (P := fun j => ∀ T E, (∀ s, s < K → bcN s ≤ n - j → E 2 s = tU pn W n j s) → V RX3 false cX3_playTurns 6 (some .int) none (d + 5) b 22 [some (xR 30 0), some (xR 3 0), some (xI (nI n)), some (xI (nI m)), some (xI (nI K)), some (xI (if j = n then -1 else nI (n - 1 - j)))] [] Y G (va_up (va_up N 31 T) 30 E) Q) n ?_ 0 (Nat.zero_le _) _ _ (fun s hs hb => hE s hs (by omega))
  intro j hij hnj T E hE
  by_cases e : j = n
  · rw [if_pos e]
    refine V_ild5 dX3_playTurns_22 ?_
    refine V_iflt (tgt := 45) dX3_playTurns_24 (by decide) (fun c24 => ?_) (fun c24 => ?_)
    · skip
      refine V_ald0 dX3_playTurns_45 ?_
      refine V_getR dX3_playTurns_46 flX3_18 (hS.r30.1 0 (0, 3) rfl) (hS.r30.2 1 (30, 2) rfl) ?_
      refine V_iconst (v := nI 0) dX3_playTurns_49 (by decide) ?_
      refine V_iar dX3_playTurns_50 (hS.r30.1 2 (1, 256) rfl) (by decide) (by decide) ?_
      refine V_ireturn dX3_playTurns_51 ⟨_, rfl, vp_nar_int _⟩ ?_
      rw [hE 0 (by omega) (Nat.zero_le _), e]
      exact hQ _ _
    · exact absurd (show (-1 : Int32) < 0 by decide) c24
  · rw [if_neg e]
    refine V_ild5 dX3_playTurns_22 ?_
    refine V_iflt (tgt := 45) dX3_playTurns_24 (by decide) (fun c24 => ?_) (fun c24 => ?_)
    · exact absurd c24 (nI_pos (by omega))
    · skip
      refine V_ald0 dX3_playTurns_27 ?_
      refine V_ald1 dX3_playTurns_28 ?_
      refine V_getI dX3_playTurns_29 flX3_131 ((hS.tr 3 rfl).1 0 (0, 5) rfl) ?_
      refine V_eqI (by rw [va_up_no _ _ (by decide), va_up_no _ _ (by decide), hN3]; exact hk.e3 : _ = nI pn) ?_
      refine V_ild4 dX3_playTurns_32 ?_
      refine V_ild5 dX3_playTurns_34 ?_
      refine V_iv3 dX3_playTurns_36 wlX3_138 mdX3_playTurn miX3_playTurn rfl (hS.r30.1 0 (0, 3) rfl) rfl rfl (kX3_playTurn hS (by omega) hK2 (by omega) hX (U := tU pn W n j) (fun s hs hb => hE s hs (by omega)) (fun E2 hE2 => ⟨rfl, ?_⟩))
      refine V_inc5 dX3_playTurns_39 rfl rfl ?_
      refine V_goto (tgt := 22) dX3_playTurns_42 (by decide) ?_
      rw [show nI (n - 1 - j) + Int32.ofInt (-1) = (if j + 1 = n then -1 else nI (n - 1 - (j + 1))) by
        by_cases h : j + 1 = n
        · rw [if_pos h, show n - 1 - j = 0 by omega]; decide
        · rw [if_neg h, show n - 1 - j = n - 1 - (j + 1) + 1 by omega]; exact pk_m1 _]
      exact hnj (by omega) _ _ (fun s hs hb => hE2 s hs (by omega))
end KS
