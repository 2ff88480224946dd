section KS
variable {d : Nat} {b : Nat × Nat} {Y : xY} {G : xG} {N : xM} {E T S : xT} {Q : Option xAV → xY → xG → xM → Prop}
def cTp (v : Nat → Int32) (pt : Nat) : Nat → Int32 × Nat
  | 0 => (-1, 0)
  | i + 1 => if nI i &&& (nI pt ^^^ (-1)) = 0 then (if cPref (cTp v pt i).1 (nI (cTp v pt i).2) (nI i) (v i) then (v i, i) else cTp v pt i) else cTp v pt i
theorem kX3_chooseTips (hS : xSt Y G) (hN3 : N 3 = S) {mb pn : Nat} (hk : tOK mb pn S) {n : Nat} (hn : n ≤ 60) {pt : Nat} (hpt : tPtd S pn = nI pt) (hpt2 : pt < 256) {v : Nat → Int32} (hv : ∀ T k, k < 256 → jBC (tBits (tRunOn mb n (tSwAll (tLike T S) (nI k) pn)) (nI 9) (nI 9) mb) = v k) (hQ : ∀ T2 E2, E2 0 9 = (cTp v pt (pt + 1)).1 → E2 0 10 = nI (cTp v pt (pt + 1)).2 → Q none Y G (va_up (va_up N 31 T2) 30 E2)) : V RX3 false cX3_chooseTips 5 none none (d + 4) b 0 [some (xR 30 0), some (xR 3 0), some (xI (nI n)), none, none] [] Y G (va_up (va_up N 31 T) 30 E) Q := by
  refine V_ald1 dX3_chooseTips_0 ?_
  refine V_iv0 dX3_chooseTips_1 wlX3_70 mdX5_bitsPointed miX5_bitsPointed rfl ((hS.tr 3 rfl).1 0 (0, 5) rfl) rfl rfl (kX5_bitsPointedN (hS.tr 3 rfl) (by rw [va_up_no _ _ (by decide), va_up_no _ _ (by decide)]; exact hN3) hk.e3 hk.pn ⟨rfl, ?_⟩)
  refine V_eqI hpt ?_
  refine V_ist3 dX3_chooseTips_4 rfl ?_
  refine V_ald0 dX3_chooseTips_5 ?_
  refine V_iconst (v := (-1)) dX3_chooseTips_6 (by decide) ?_
  refine V_putIr dX3_chooseTips_7 fwX3_44 (hS.r30.1 0 (0, 3) rfl) ?_
  refine V_ald0 dX3_chooseTips_10 ?_
  refine V_iconst (v := nI 0) dX3_chooseTips_11 (by decide) ?_
  refine V_putIr dX3_chooseTips_12 fwX3_47 (hS.r30.1 0 (0, 3) rfl) ?_
  refine V_iconst (v := nI 0) dX3_chooseTips_15 (by decide) ?_
  refine V_ist4 dX3_chooseTips_16 rfl ?_
  refine xDown (P := fun i => ∀ T E, E 0 9 = (cTp v pt i).1 → E 0 10 = nI (cTp v pt i).2 → V RX3 false cX3_chooseTips 5 none none (d + 4) b 18 [some (xR 30 0), some (xR 3 0), some (xI (nI n)), some (xI (nI pt)), some (xI (nI i))] [] Y G (va_up (va_up N 31 T) 30 E) Q) (pt + 1) ?_ 0 (Nat.zero_le _) _ _ rfl rfl 
  intro i hii hni T E e8 e9
  refine V_ild4 dX3_chooseTips_18 ?_
  refine V_ild3 dX3_chooseTips_20 ?_
  refine V_icmpgtN (tgt := 76) dX3_chooseTips_21 (by decide) (by omega) (by omega) (fun c21 => ?_) (fun c21 => ?_)
  · skip
    refine V_return dX3_chooseTips_76 rfl ?_
    rw [show i = pt + 1 by omega] at e8 e9
    exact hQ _ _ e8 e9
  · skip
    refine V_ild4 dX3_chooseTips_24 ?_
    refine V_ild3 dX3_chooseTips_26 ?_
    refine V_iconst (v := (-1)) dX3_chooseTips_27 (by decide) ?_
    refine V_ixor dX3_chooseTips_28 ?_
    refine V_iand dX3_chooseTips_29 ?_
    refine V_ifne (tgt := 70) dX3_chooseTips_30 (by decide) (fun c30 => ?_) (fun c30 => ?_)
    · skip
      refine V_incN4 dX3_chooseTips_70 rfl ?_
      refine V_goto (tgt := 18) dX3_chooseTips_73 (by decide) ?_
      exact hni (by omega) _ _ (by rw [cTp, if_neg c30]; exact e8) (by rw [cTp, if_neg c30]; exact e9)
    · skip
      refine V_ald0 dX3_chooseTips_33 ?_
      refine V_getR dX3_chooseTips_34 flX3_12 (hS.r30.1 0 (0, 3) rfl) (hS.r30.2 0 (31, 0) rfl) ?_
      refine V_ald1 dX3_chooseTips_37 ?_
      refine V_comm (by decide) ?_
      refine V_iv1 dX3_chooseTips_38 wlX3_51 mdX5_becomeLike miX5_becomeLike rfl ((hS.tr 31 rfl).1 0 (0, 5) rfl) rfl rfl (kX5_becomeLike (hS.tr 31 rfl) (hS.tr 3 rfl) (by decide) (by first | exact hN3 | (rw [va_up_no _ _ (by decide)]; exact hN3)) ⟨rfl, ?_⟩)
      refine V_comm (by decide) ?_
      refine V_ald0 dX3_chooseTips_41 ?_
      refine V_getR dX3_chooseTips_42 flX3_12 (hS.r30.1 0 (0, 3) rfl) (hS.r30.2 0 (31, 0) rfl) ?_
      refine V_ild4 dX3_chooseTips_45 ?_
      refine V_comm (by decide) ?_
      refine V_iv1 dX3_chooseTips_47 wlX3_74 mdX5_swingAll miX5_swingAll rfl ((hS.tr 31 rfl).1 0 (0, 5) rfl) rfl rfl (kX5_swingAll (hS.tr 31 rfl) (hk.like T).e3 hk.pn ⟨rfl, ?_⟩)
      refine V_comm (by decide) ?_
      refine V_ald0 dX3_chooseTips_50 ?_
      refine V_ild2 dX3_chooseTips_51 ?_
      refine V_comm (by decide) ?_
      refine V_iv1 dX3_chooseTips_52 wlX3_55 mdX3_goOn miX3_goOn rfl (hS.r30.1 0 (0, 3) rfl) rfl rfl (kX3_goOn hS ((hk.like T).swAll (nI i) pn (Nat.le_refl _)) (by omega) ⟨rfl, ?_⟩)
      refine V_comm (by decide) ?_
      refine V_ald0 dX3_chooseTips_55 ?_
      refine V_ild4 dX3_chooseTips_56 ?_
      refine V_ald0 dX3_chooseTips_58 ?_
      refine V_getR dX3_chooseTips_59 flX3_12 (hS.r30.1 0 (0, 3) rfl) (hS.r30.2 0 (31, 0) rfl) ?_
      refine V_bipush (v := nI 9) dX3_chooseTips_62 (by decide) ?_
      refine V_comm (by decide) ?_
      refine V_iv1 dX3_chooseTips_64 wlX3_77 mdX5_manyAt miX5_manyAt rfl ((hS.tr 31 rfl).1 0 (0, 5) rfl) rfl rfl (kX5_manyAt (hS.tr 31 rfl) (((hk.like T).swAll (nI i) pn (Nat.le_refl _)).runOn n).e2 hk.mb ⟨rfl, ?_⟩)
      refine V_comm (by decide) ?_
      rw [hv T i (by omega)]
      refine V_iv2 dX3_chooseTips_67 wlX3_81 mdX3_preferTips miX3_preferTips rfl (hS.r30.1 0 (0, 3) rfl) rfl rfl (kX3_preferTips hS (fun hp E2 g8 g9 gc => ⟨rfl, ?_⟩) (fun hp => ⟨rfl, ?_⟩))
      · skip
        refine V_incN4 dX3_chooseTips_70 rfl ?_
        refine V_goto (tgt := 18) dX3_chooseTips_73 (by decide) ?_
        rw [e8, e9] at hp
        exact hni (by omega) _ _ (by rw [cTp, if_pos c30, if_pos hp]; exact g8) (by rw [cTp, if_pos c30, if_pos hp]; exact g9)
      · skip
        refine V_incN4 dX3_chooseTips_70 rfl ?_
        refine V_goto (tgt := 18) dX3_chooseTips_73 (by decide) ?_
        rw [e8, e9] at hp
        exact hni (by omega) _ _ (by rw [cTp, if_pos c30, if_neg hp]; exact e8) (by rw [cTp, if_pos c30, if_neg hp]; exact e9)
def cLd (v : Nat → Int32) (p : Nat) : Nat → Int32 × Nat
  | 0 => (-1, 9)
  | i + 1 => if (cLd v p i).1 < v (p + 1 + i) then (v (p + 1 + i), p + 1 + i) else cLd v p i
def tRi (T : xT) (p : Nat) (v : Int32) : xT := va_up T 12 (upd (T 12) p v)
theorem tOK.right {mb pn : Nat} {T : xT} (h : tOK mb pn T) {p q : Nat} (hp : p < q) (hq : q ≤ 9) : tOK mb pn (tRi T p (nI q)) := by
  obtain ⟨a1, a2, a3, a4, a5, a6, a7, a8, a9, a10, a11⟩ := h
  refine ⟨a1, a2, a3, a4, a5, a6, a7, a8, ?_, a10, a11⟩
  intro p' hp'
  unfold tRi
  rw [va_up_eq]
  by_cases e : p' = p
  · subst e; rw [upd_eq]; exact ⟨q, rfl, hp, hq⟩
  · rw [upd_no _ _ e]; exact a9 p' hp'
theorem kX3_chooseLead (hS : xSt Y G) (hN3 : N 3 = S) {mb pn : Nat} (hk : tOK mb pn S) {p n : Nat} (hp : p < pn) (hn : n ≤ 60) {v : Nat → Int32} (hv : ∀ T q, p < q → q ≤ 9 → jBC (tBits (tRunOn mb n (tRi (tLike T S) p (nI q))) (nI 9) (nI 9) mb) = v q) (hQ : ∀ T2 E2, E2 0 9 = (cLd v p (9 - p)).1 → E2 0 10 = nI (cLd v p (9 - p)).2 → Q none Y G (va_up (va_up N 31 T2) 30 E2)) : V RX3 false cX3_chooseLead 6 none none (d + 4) b 0 [some (xR 30 0), some (xR 3 0), some (xI (nI p)), some (xI (nI n)), none, none] [] Y G (va_up (va_up N 31 T) 30 E) Q := by
  have hpn := hk.pn
  refine V_ald0 dX3_chooseLead_0 ?_
  refine V_iconst (v := (-1)) dX3_chooseLead_1 (by decide) ?_
  refine V_putIr dX3_chooseLead_2 fwX3_44 (hS.r30.1 0 (0, 3) rfl) ?_
  refine V_ald0 dX3_chooseLead_5 ?_
  refine V_bipush (v := nI 9) dX3_chooseLead_6 (by decide) ?_
  refine V_putIr dX3_chooseLead_8 fwX3_47 (hS.r30.1 0 (0, 3) rfl) ?_
  refine V_ild2 dX3_chooseLead_11 ?_
  refine V_iconst (v := nI 1) dX3_chooseLead_12 (by decide) ?_
  refine V_iaddN dX3_chooseLead_13 ?_
  refine V_ist4 dX3_chooseLead_14 rfl ?_
  refine xDown (P := fun i => ∀ T E l5, E 0 9 = (cLd v p i).1 → E 0 10 = nI (cLd v p i).2 → V RX3 false cX3_chooseLead 6 none none (d + 4) b 16 [some (xR 30 0), some (xR 3 0), some (xI (nI p)), some (xI (nI n)), some (xI (nI (p + 1 + i))), l5] [] Y G (va_up (va_up N 31 T) 30 E) Q) (9 - p) ?_ 0 (Nat.zero_le _) _ _ _ rfl rfl 
  intro i hii hni T E l5 e8 e9
  refine V_ild4 dX3_chooseLead_16 ?_
  refine V_bipush (v := nI 9) dX3_chooseLead_18 (by decide) ?_
  refine V_icmpgtN (tgt := 85) dX3_chooseLead_20 (by decide) (by omega) (by omega) (fun c20 => ?_) (fun c20 => ?_)
  · skip
    refine V_return dX3_chooseLead_85 rfl ?_
    rw [show i = 9 - p by omega] at e8 e9
    exact hQ _ _ e8 e9
  · skip
    refine V_ald0 dX3_chooseLead_23 ?_
    refine V_getR dX3_chooseLead_24 flX3_12 (hS.r30.1 0 (0, 3) rfl) (hS.r30.2 0 (31, 0) rfl) ?_
    refine V_ald1 dX3_chooseLead_27 ?_
    refine V_comm (by decide) ?_
    refine V_iv1 dX3_chooseLead_28 wlX3_51 mdX5_becomeLike miX5_becomeLike rfl ((hS.tr 31 rfl).1 0 (0, 5) rfl) rfl rfl (kX5_becomeLike (hS.tr 31 rfl) (hS.tr 3 rfl) (by decide) (by first | exact hN3 | (rw [va_up_no _ _ (by decide)]; exact hN3)) ⟨rfl, ?_⟩)
    refine V_comm (by decide) ?_
    refine V_ald0 dX3_chooseLead_31 ?_
    refine V_getR dX3_chooseLead_32 flX3_12 (hS.r30.1 0 (0, 3) rfl) (hS.r30.2 0 (31, 0) rfl) ?_
    refine V_getR dX3_chooseLead_35 flX3_90 ((hS.tr 31 rfl).1 0 (0, 5) rfl) (show G 31 0 11 = some (31, 12) from (hS.tr 31 rfl).2 11 (by decide) (by decide)) ?_
    refine V_ild2 dX3_chooseLead_38 ?_
    refine V_ild4 dX3_chooseLead_39 ?_
    refine V_iasq (by decide) dX3_chooseLead_41 ((hS.tr 31 rfl).1 12 (1, 8) rfl) (by omega) (by decide) ?_
    refine V_ald0 dX3_chooseLead_42 ?_
    refine V_ild3 dX3_chooseLead_43 ?_
    refine V_comm (by decide) ?_
    refine V_iv1 dX3_chooseLead_44 wlX3_55 mdX3_goOn miX3_goOn rfl (hS.r30.1 0 (0, 3) rfl) rfl rfl (kX3_goOn hS ((hk.like T).right (p := p) (q := p + 1 + i) (by omega) (by omega)) (by omega) ⟨rfl, ?_⟩)
    refine V_comm (by decide) ?_
    refine V_ald0 dX3_chooseLead_47 ?_
    refine V_getR dX3_chooseLead_48 flX3_12 (hS.r30.1 0 (0, 3) rfl) (hS.r30.2 0 (31, 0) rfl) ?_
    refine V_bipush (v := nI 9) dX3_chooseLead_51 (by decide) ?_
    refine V_comm (by decide) ?_
    refine V_iv1 dX3_chooseLead_53 wlX3_77 mdX5_manyAt miX5_manyAt rfl ((hS.tr 31 rfl).1 0 (0, 5) rfl) rfl rfl (kX5_manyAt (hS.tr 31 rfl) (((hk.like T).right (p := p) (q := p + 1 + i) (by omega) (by omega)).runOn n).e2 hk.mb ⟨rfl, ?_⟩)
    refine V_comm (by decide) ?_
    rw [show jBC _ = v (p + 1 + i) from hv T (p + 1 + i) (by omega) (by omega)]
    refine V_ist5 dX3_chooseLead_56 rfl ?_
    refine V_ild5 dX3_chooseLead_58 ?_
    refine V_ald0 dX3_chooseLead_60 ?_
    refine V_getIr dX3_chooseLead_61 flX3_44 (hS.r30.1 0 (0, 3) rfl) ?_
    rw [e8]
    refine V_icmple (tgt := 79) dX3_chooseLead_64 (by decide) (fun c64 => ?_) (fun c64 => ?_)
    · skip
      refine V_incN4 dX3_chooseLead_79 rfl ?_
      refine V_goto (tgt := 16) dX3_chooseLead_82 (by decide) ?_
      exact hni (by omega) _ _ _ (by rw [cLd, if_neg (Int32.not_lt.mpr c64)]; exact e8) (by rw [cLd, if_neg (Int32.not_lt.mpr c64)]; exact e9)
    · skip
      refine V_ald0 dX3_chooseLead_67 ?_
      refine V_ild5 dX3_chooseLead_68 ?_
      refine V_putIr dX3_chooseLead_70 fwX3_44 (hS.r30.1 0 (0, 3) rfl) ?_
      refine V_ald0 dX3_chooseLead_73 ?_
      refine V_ild4 dX3_chooseLead_74 ?_
      refine V_putIr dX3_chooseLead_76 fwX3_47 (hS.r30.1 0 (0, 3) rfl) ?_
      refine V_incN4 dX3_chooseLead_79 rfl ?_
      refine V_goto (tgt := 16) dX3_chooseLead_82 (by decide) ?_
      exact hni (by omega) _ _ _ (by rw [cLd, if_pos (Int32.not_le.mp c64)]; rfl) (by rw [cLd, if_pos (Int32.not_le.mp c64)]; rfl)
end KS
