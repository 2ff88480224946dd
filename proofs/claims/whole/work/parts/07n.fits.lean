section KS
variable {d : Nat} {b : Nat × Nat} {Y : xY} {G : xG} {N : xM} {E T S : xT} {Q : Option xAV → xY → xG → xM → Prop}
theorem kX3_fits (hS : xSt Y G) {mb pn : Nat} (hk : tOK mb pn T) {w fr tk : Nat} (hw : w < 8) (hG5 : G 30 0 6 = some (1, 10 + w)) (hfr : E 0 7 = nI fr) (htk : E 0 8 = nI tk) (hft : fr + tk ≤ 40) (hQ : ∀ T2, Q (some (xI (if cFit mb (N 1 (10 + w)) tk fr T = true then 1 else 0))) Y G (va_up (va_up N 31 T2) 30 E)) : V RX3 false cX3_fits 2 (some .boolean) none (d + 3) b 0 [some (xR 30 0), none] [] Y G (va_up (va_up N 31 T) 30 E) Q := by
  refine V_ald0 dX3_fits_0 ?_
  refine V_getR dX3_fits_1 flX3_34 (hS.r30.1 0 (0, 3) rfl) hG5 ?_
  refine V_ifnonnull (tgt := 9) dX3_fits_4 (by decide) ?_
  refine V_iconst (v := nI 0) dX3_fits_9 (by decide) ?_
  refine V_ist1 dX3_fits_10 rfl ?_
  refine xDown (P := fun i => ∀ T, tOK mb pn T → (∀ T2, Q (some (xI (if cFit mb (N 1 (10 + w)) (tk - i) (fr + i) T = true then 1 else 0))) Y G (va_up (va_up N 31 T2) 30 E)) → V RX3 false cX3_fits 2 (some .boolean) none (d + 3) b 11 [some (xR 30 0), some (xI (nI i))] [] Y G (va_up (va_up N 31 T) 30 E) Q) tk ?_ 0 (Nat.zero_le _) T hk hQ 
  intro i hii hni T hk hq
  refine V_ild1 dX3_fits_11 ?_
  refine V_ald0 dX3_fits_12 ?_
  refine V_getIr dX3_fits_13 flX3_41 (hS.r30.1 0 (0, 3) rfl) ?_
  refine V_eqI htk ?_
  refine V_icmpgeN (tgt := 70) dX3_fits_16 (by decide) (by omega) (by omega) (fun c16 => ?_) (fun c16 => ?_)
  · skip
    refine V_iconst (v := 1) dX3_fits_70 (by decide) ?_
    refine V_ireturn dX3_fits_71 ⟨_, rfl, xbool (by first | exact Or.inl rfl | exact Or.inr rfl | exact xite01 _)⟩ ?_
    rw [show tk - i = 0 by omega, cFit] at hq
    exact hq _
  · skip
    refine V_ald0 dX3_fits_19 ?_
    refine V_getR dX3_fits_20 flX3_12 (hS.r30.1 0 (0, 3) rfl) (hS.r30.2 0 (31, 0) rfl) ?_
    refine V_comm (by decide) ?_
    refine V_iv0 dX3_fits_23 wlX3_63 mdX5_pass miX5_pass rfl ((hS.tr 31 rfl).1 0 (0, 5) rfl) rfl rfl (kX5_pass (hS.tr 31 rfl) hk.e2 hk.mb hk.safe ⟨rfl, ?_⟩)
    refine V_comm (by decide) ?_
    refine V_ald0 dX3_fits_26 ?_
    refine V_getR dX3_fits_27 flX3_34 (hS.r30.1 0 (0, 3) rfl) hG5 ?_
    refine V_ald0 dX3_fits_30 ?_
    refine V_getIr dX3_fits_31 flX3_37 (hS.r30.1 0 (0, 3) rfl) ?_
    refine V_eqI hfr ?_
    refine V_ild1 dX3_fits_34 ?_
    refine V_iaddN dX3_fits_35 ?_
    refine V_ia dX3_fits_36 (hS.iy hw) (by omega) (by decide) ?_
    refine V_eqI (show _ = N 1 (10 + w) (fr + i) from by rw [va_up_no _ _ (by decide), va_up_no _ _ (by decide)]) ?_
    refine V_ald0 dX3_fits_37 ?_
    refine V_getR dX3_fits_38 flX3_12 (hS.r30.1 0 (0, 3) rfl) (hS.r30.2 0 (31, 0) rfl) ?_
    refine V_bipush (v := nI 8) dX3_fits_41 (by decide) ?_
    refine V_comm (by decide) ?_
    refine V_iv1 dX3_fits_43 wlX3_77 mdX5_manyAt miX5_manyAt rfl ((hS.tr 31 rfl).1 0 (0, 5) rfl) rfl rfl (kX5_manyAt (hS.tr 31 rfl) hk.pass.e2 hk.mb ⟨rfl, ?_⟩)
    refine V_comm (by decide) ?_
    refine V_bipush (v := nI 10) dX3_fits_46 (by decide) ?_
    refine V_ald0 dX3_fits_48 ?_
    refine V_getR dX3_fits_49 flX3_12 (hS.r30.1 0 (0, 3) rfl) (hS.r30.2 0 (31, 0) rfl) ?_
    refine V_bipush (v := nI 9) dX3_fits_52 (by decide) ?_
    refine V_comm (by decide) ?_
    refine V_iv1 dX3_fits_54 wlX3_77 mdX5_manyAt miX5_manyAt rfl ((hS.tr 31 rfl).1 0 (0, 5) rfl) rfl rfl (kX5_manyAt (hS.tr 31 rfl) hk.pass.e2 hk.mb ⟨rfl, ?_⟩)
    refine V_comm (by decide) ?_
    refine V_imul dX3_fits_57 ?_
    refine V_iadd dX3_fits_58 ?_
    refine V_icmpeq (tgt := 64) dX3_fits_59 (by decide) (fun c59 => ?_) (fun c59 => ?_)
    · skip
      refine V_incN1 dX3_fits_64 rfl ?_
      refine V_goto (tgt := 11) dX3_fits_67 (by decide) ?_
      rw [show tk - i = tk - (i + 1) + 1 by omega, cFit, if_pos c59] at hq
      exact hni (by omega) _ hk.pass hq
    · skip
      refine V_iconst (v := 0) dX3_fits_62 (by decide) ?_
      refine V_ireturn dX3_fits_63 ⟨_, rfl, xbool (by first | exact Or.inl rfl | exact Or.inr rfl | exact xite01 _)⟩ ?_
      rw [show tk - i = tk - (i + 1) + 1 by omega, cFit, if_neg c59] at hq
      exact hq _
theorem kX3_bitIfFit (hS : xSt Y G) {mb pn : Nat} (hk : tOK mb pn T) {w fr tk : Nat} (hw : w < 8) (hG5 : G 30 0 6 = some (1, 10 + w)) (hfr : E 0 7 = nI fr) (htk : E 0 8 = nI tk) (hft : fr + tk ≤ 40) {v : Nat} (hQ : ∀ T2, Q (some (xI (if cFit mb (N 1 (10 + w)) tk fr T = true then nI 1 <<< (nI v &&& 31) else nI 0))) Y G (va_up (va_up N 31 T2) 30 E)) : V RX3 false cX3_bitIfFit 2 (some .int) none (d + 4) b 0 [some (xR 30 0), some (xI (nI v))] [] Y G (va_up (va_up N 31 T) 30 E) Q := by
  refine V_ald0 dX3_bitIfFit_0 ?_
  refine V_iv0 dX3_bitIfFit_1 wlX3_151 mdX3_fits miX3_fits rfl (hS.r30.1 0 (0, 3) rfl) rfl rfl (kX3_fits hS hk hw hG5 hfr htk hft (fun T2 => ⟨rfl, ?_⟩))
  refine V_ifeqB (tgt := 13) dX3_bitIfFit_4 (by decide) (fun c4 => ?_) (fun c4 => ?_)
  · skip
    refine V_iconst (v := nI 0) dX3_bitIfFit_13 (by decide) ?_
    refine V_ireturn dX3_bitIfFit_14 ⟨_, rfl, vp_nar_int _⟩ ?_
    have hq := hQ T2
    rw [if_neg c4] at hq
    exact hq
  · skip
    refine V_iconst (v := nI 1) dX3_bitIfFit_7 (by decide) ?_
    refine V_ild1 dX3_bitIfFit_8 ?_
    refine V_ishl dX3_bitIfFit_9 ?_
    refine V_goto (tgt := 14) dX3_bitIfFit_10 (by decide) ?_
    refine V_ireturn dX3_bitIfFit_14 ⟨_, rfl, vp_nar_int _⟩ ?_
    have hq := hQ T2
    rw [if_pos c4] at hq
    exact hq
theorem kX3_kindsThatFit (hS : xSt Y G) (hN3 : N 3 = S) {mb pn : Nat} (hk : tOK mb pn S) {w fr tk : Nat} (hw : w < 8) (hG5 : G 30 0 6 = some (1, 10 + w)) (hfr : E 0 7 = nI fr) (htk : E 0 8 = nI tk) (hft : fr + tk ≤ 40) {p : Nat} (hp : p < pn) {pv : Nat → Bool} (hv : ∀ T k, 1 ≤ k → k < 6 → cFit mb (N 1 (10 + w)) tk fr (tPut (tLike T S) 9 p (nI k)) = pv k) (hQ : ∀ T2, Q (some (xI (fitS pv 1 5))) Y G (va_up (va_up N 31 T2) 30 E)) : V RX3 false cX3_kindsThatFit 5 (some .int) none (d + 5) b 0 [some (xR 30 0), some (xR 3 0), some (xI (nI p)), none, none] [] Y G (va_up (va_up N 31 T) 30 E) Q := by
  have hmb := hk.mb
  have hpn := hk.pn
  refine V_iconst (v := nI 0) dX3_kindsThatFit_0 (by decide) ?_
  refine V_ist3 dX3_kindsThatFit_1 rfl ?_
  refine V_iconst (v := nI 1) dX3_kindsThatFit_2 (by decide) ?_
  refine V_ist4 dX3_kindsThatFit_3 rfl ?_
  refine xDown (P := fun i => ∀ T, V RX3 false cX3_kindsThatFit 5 (some .int) none (d + 5) b 5 [some (xR 30 0), some (xR 3 0), some (xI (nI p)), some (xI (fitS pv 1 i)), some (xI (nI (1 + i)))] [] Y G (va_up (va_up N 31 T) 30 E) Q) 5 ?_ 0 (Nat.zero_le _) T 
  intro i hii hni T
  refine V_ild4 dX3_kindsThatFit_5 ?_
  refine V_iconst (v := nI 5) dX3_kindsThatFit_7 (by decide) ?_
  refine V_icmpgtN (tgt := 45) dX3_kindsThatFit_8 (by decide) (by omega) (by omega) (fun c8 => ?_) (fun c8 => ?_)
  · skip
    refine V_ild3 dX3_kindsThatFit_45 ?_
    refine V_ireturn dX3_kindsThatFit_46 ⟨_, rfl, vp_nar_int _⟩ ?_
    rw [show i = 5 by omega]
    exact hQ _
  · skip
    refine V_ald0 dX3_kindsThatFit_11 ?_
    refine V_getR dX3_kindsThatFit_12 flX3_12 (hS.r30.1 0 (0, 3) rfl) (hS.r30.2 0 (31, 0) rfl) ?_
    refine V_ald1 dX3_kindsThatFit_15 ?_
    refine V_comm (by decide) ?_
    refine V_iv1 dX3_kindsThatFit_16 wlX3_51 mdX5_becomeLike miX5_becomeLike rfl ((hS.tr 31 rfl).1 0 (0, 5) rfl) rfl rfl (kX5_becomeLike (hS.tr 31 rfl) (hS.tr 3 rfl) (by decide) (by first | exact hN3 | (rw [va_up_no _ _ (by decide)]; exact hN3)) ⟨rfl, ?_⟩)
    refine V_comm (by decide) ?_
    refine V_ald0 dX3_kindsThatFit_19 ?_
    refine V_getR dX3_kindsThatFit_20 flX3_12 (hS.r30.1 0 (0, 3) rfl) (hS.r30.2 0 (31, 0) rfl) ?_
    refine V_getR dX3_kindsThatFit_23 flX3_154 ((hS.tr 31 rfl).1 0 (0, 5) rfl) (show G 31 0 8 = some (31, 9) from (hS.tr 31 rfl).2 8 (by decide) (by decide)) ?_
    refine V_ild2 dX3_kindsThatFit_26 ?_
    refine V_ild4 dX3_kindsThatFit_27 ?_
    refine V_iasq (by decide) dX3_kindsThatFit_29 ((hS.tr 31 rfl).1 9 (1, 8) rfl) (by omega) (by decide) ?_
    refine V_ild3 dX3_kindsThatFit_30 ?_
    refine V_ald0 dX3_kindsThatFit_31 ?_
    refine V_ild4 dX3_kindsThatFit_32 ?_
    refine V_iv1 dX3_kindsThatFit_34 wlX3_157 mdX3_bitIfFit miX3_bitIfFit rfl (hS.r30.1 0 (0, 3) rfl) rfl rfl (kX3_bitIfFit hS ((hk.like T).c9 p (nI (1 + i))) hw hG5 hfr htk hft (fun T3 => ⟨rfl, ?_⟩))
    rw [show cFit mb (N 1 (10 + w)) tk fr _ = pv (1 + i) from hv T (1 + i) (by omega) (by omega)]
    refine V_ior dX3_kindsThatFit_37 ?_
    refine V_ist3 dX3_kindsThatFit_38 rfl ?_
    refine V_incN4 dX3_kindsThatFit_39 rfl ?_
    refine V_goto (tgt := 5) dX3_kindsThatFit_42 (by decide) ?_
    exact hni (by omega) _
theorem kX3_pointsThatFit (hS : xSt Y G) (hN3 : N 3 = S) {mb pn : Nat} (hk : tOK mb pn S) {w fr tk : Nat} (hw : w < 8) (hG5 : G 30 0 6 = some (1, 10 + w)) (hfr : E 0 7 = nI fr) (htk : E 0 8 = nI tk) (hft : fr + tk ≤ 40) {p : Nat} (hp : p < pn) {pv : Nat → Bool} (hv : ∀ T k, 0 ≤ k → k < 2 → cFit mb (N 1 (10 + w)) tk fr (tPut (tLike T S) 10 p (nI k)) = pv k) (hQ : ∀ T2, Q (some (xI (fitS pv 0 2))) Y G (va_up (va_up N 31 T2) 30 E)) : V RX3 false cX3_pointsThatFit 5 (some .int) none (d + 5) b 0 [some (xR 30 0), some (xR 3 0), some (xI (nI p)), none, none] [] Y G (va_up (va_up N 31 T) 30 E) Q := by
  have hmb := hk.mb
  have hpn := hk.pn
  refine V_iconst (v := nI 0) dX3_pointsThatFit_0 (by decide) ?_
  refine V_ist3 dX3_pointsThatFit_1 rfl ?_
  refine V_iconst (v := nI 0) dX3_pointsThatFit_2 (by decide) ?_
  refine V_ist4 dX3_pointsThatFit_3 rfl ?_
  refine xDown (P := fun i => ∀ T, V RX3 false cX3_pointsThatFit 5 (some .int) none (d + 5) b 5 [some (xR 30 0), some (xR 3 0), some (xI (nI p)), some (xI (fitS pv 0 i)), some (xI (nI (0 + i)))] [] Y G (va_up (va_up N 31 T) 30 E) Q) 2 ?_ 0 (Nat.zero_le _) T 
  intro i hii hni T
  refine V_ild4 dX3_pointsThatFit_5 ?_
  refine V_iconst (v := nI 1) dX3_pointsThatFit_7 (by decide) ?_
  refine V_icmpgtN (tgt := 45) dX3_pointsThatFit_8 (by decide) (by omega) (by omega) (fun c8 => ?_) (fun c8 => ?_)
  · skip
    refine V_ild3 dX3_pointsThatFit_45 ?_
    refine V_ireturn dX3_pointsThatFit_46 ⟨_, rfl, vp_nar_int _⟩ ?_
    rw [show i = 2 by omega]
    exact hQ _
  · skip
    refine V_ald0 dX3_pointsThatFit_11 ?_
    refine V_getR dX3_pointsThatFit_12 flX3_12 (hS.r30.1 0 (0, 3) rfl) (hS.r30.2 0 (31, 0) rfl) ?_
    refine V_ald1 dX3_pointsThatFit_15 ?_
    refine V_comm (by decide) ?_
    refine V_iv1 dX3_pointsThatFit_16 wlX3_51 mdX5_becomeLike miX5_becomeLike rfl ((hS.tr 31 rfl).1 0 (0, 5) rfl) rfl rfl (kX5_becomeLike (hS.tr 31 rfl) (hS.tr 3 rfl) (by decide) (by first | exact hN3 | (rw [va_up_no _ _ (by decide)]; exact hN3)) ⟨rfl, ?_⟩)
    refine V_comm (by decide) ?_
    refine V_ald0 dX3_pointsThatFit_19 ?_
    refine V_getR dX3_pointsThatFit_20 flX3_12 (hS.r30.1 0 (0, 3) rfl) (hS.r30.2 0 (31, 0) rfl) ?_
    refine V_getR dX3_pointsThatFit_23 flX3_160 ((hS.tr 31 rfl).1 0 (0, 5) rfl) (show G 31 0 9 = some (31, 10) from (hS.tr 31 rfl).2 9 (by decide) (by decide)) ?_
    refine V_ild2 dX3_pointsThatFit_26 ?_
    refine V_ild4 dX3_pointsThatFit_27 ?_
    refine V_iasq (by decide) dX3_pointsThatFit_29 ((hS.tr 31 rfl).1 10 (1, 8) rfl) (by omega) (by decide) ?_
    refine V_ild3 dX3_pointsThatFit_30 ?_
    refine V_ald0 dX3_pointsThatFit_31 ?_
    refine V_ild4 dX3_pointsThatFit_32 ?_
    refine V_iv1 dX3_pointsThatFit_34 wlX3_157 mdX3_bitIfFit miX3_bitIfFit rfl (hS.r30.1 0 (0, 3) rfl) rfl rfl (kX3_bitIfFit hS ((hk.like T).c10 (k := p) (v := 0 + i) (by omega)) hw hG5 hfr htk hft (fun T3 => ⟨rfl, ?_⟩))
    rw [show cFit mb (N 1 (10 + w)) tk fr _ = pv (0 + i) from hv T (0 + i) (by omega) (by omega)]
    refine V_ior dX3_pointsThatFit_37 ?_
    refine V_ist3 dX3_pointsThatFit_38 rfl ?_
    refine V_incN4 dX3_pointsThatFit_39 rfl ?_
    refine V_goto (tgt := 5) dX3_pointsThatFit_42 (by decide) ?_
    exact hni (by omega) _
theorem kX3_weightsThatFit (hS : xSt Y G) (hN3 : N 3 = S) {mb pn : Nat} (hk : tOK mb pn S) {w fr tk : Nat} (hw : w < 8) (hG5 : G 30 0 6 = some (1, 10 + w)) (hfr : E 0 7 = nI fr) (htk : E 0 8 = nI tk) (hft : fr + tk ≤ 40) {m : Nat} (hm : m < mb) {pv : Nat → Bool} (hv : ∀ T k, 1 ≤ k → k < 10 → cFit mb (N 1 (10 + w)) tk fr (tPut (tLike T S) 6 m (nI k)) = pv k) (hQ : ∀ T2, Q (some (xI (fitS pv 1 9))) Y G (va_up (va_up N 31 T2) 30 E)) : V RX3 false cX3_weightsThatFit 5 (some .int) none (d + 5) b 0 [some (xR 30 0), some (xR 3 0), some (xI (nI m)), none, none] [] Y G (va_up (va_up N 31 T) 30 E) Q := by
  have hmb := hk.mb
  have hpn := hk.pn
  refine V_iconst (v := nI 0) dX3_weightsThatFit_0 (by decide) ?_
  refine V_ist3 dX3_weightsThatFit_1 rfl ?_
  refine V_iconst (v := nI 1) dX3_weightsThatFit_2 (by decide) ?_
  refine V_ist4 dX3_weightsThatFit_3 rfl ?_
  refine xDown (P := fun i => ∀ T, V RX3 false cX3_weightsThatFit 5 (some .int) none (d + 5) b 5 [some (xR 30 0), some (xR 3 0), some (xI (nI m)), some (xI (fitS pv 1 i)), some (xI (nI (1 + i)))] [] Y G (va_up (va_up N 31 T) 30 E) Q) 9 ?_ 0 (Nat.zero_le _) T 
  intro i hii hni T
  refine V_ild4 dX3_weightsThatFit_5 ?_
  refine V_bipush (v := nI 9) dX3_weightsThatFit_7 (by decide) ?_
  refine V_icmpgtN (tgt := 46) dX3_weightsThatFit_9 (by decide) (by omega) (by omega) (fun c9 => ?_) (fun c9 => ?_)
  · skip
    refine V_ild3 dX3_weightsThatFit_46 ?_
    refine V_ireturn dX3_weightsThatFit_47 ⟨_, rfl, vp_nar_int _⟩ ?_
    rw [show i = 9 by omega]
    exact hQ _
  · skip
    refine V_ald0 dX3_weightsThatFit_12 ?_
    refine V_getR dX3_weightsThatFit_13 flX3_12 (hS.r30.1 0 (0, 3) rfl) (hS.r30.2 0 (31, 0) rfl) ?_
    refine V_ald1 dX3_weightsThatFit_16 ?_
    refine V_comm (by decide) ?_
    refine V_iv1 dX3_weightsThatFit_17 wlX3_51 mdX5_becomeLike miX5_becomeLike rfl ((hS.tr 31 rfl).1 0 (0, 5) rfl) rfl rfl (kX5_becomeLike (hS.tr 31 rfl) (hS.tr 3 rfl) (by decide) (by first | exact hN3 | (rw [va_up_no _ _ (by decide)]; exact hN3)) ⟨rfl, ?_⟩)
    refine V_comm (by decide) ?_
    refine V_ald0 dX3_weightsThatFit_20 ?_
    refine V_getR dX3_weightsThatFit_21 flX3_12 (hS.r30.1 0 (0, 3) rfl) (hS.r30.2 0 (31, 0) rfl) ?_
    refine V_getR dX3_weightsThatFit_24 flX3_113 ((hS.tr 31 rfl).1 0 (0, 5) rfl) (show G 31 0 5 = some (31, 6) from (hS.tr 31 rfl).2 5 (by decide) (by decide)) ?_
    refine V_ild2 dX3_weightsThatFit_27 ?_
    refine V_ild4 dX3_weightsThatFit_28 ?_
    refine V_iasq (by decide) dX3_weightsThatFit_30 ((hS.tr 31 rfl).1 6 (1, 6) rfl) (by omega) (by decide) ?_
    refine V_ild3 dX3_weightsThatFit_31 ?_
    refine V_ald0 dX3_weightsThatFit_32 ?_
    refine V_ild4 dX3_weightsThatFit_33 ?_
    refine V_iv1 dX3_weightsThatFit_35 wlX3_157 mdX3_bitIfFit miX3_bitIfFit rfl (hS.r30.1 0 (0, 3) rfl) rfl rfl (kX3_bitIfFit hS ((hk.like T).c6 m (nI (1 + i))) hw hG5 hfr htk hft (fun T3 => ⟨rfl, ?_⟩))
    rw [show cFit mb (N 1 (10 + w)) tk fr _ = pv (1 + i) from hv T (1 + i) (by omega) (by omega)]
    refine V_ior dX3_weightsThatFit_38 ?_
    refine V_ist3 dX3_weightsThatFit_39 rfl ?_
    refine V_incN4 dX3_weightsThatFit_40 rfl ?_
    refine V_goto (tgt := 5) dX3_weightsThatFit_43 (by decide) ?_
    exact hni (by omega) _
theorem kX3_barsThatFit (hS : xSt Y G) (hN3 : N 3 = S) {mb pn : Nat} (hk : tOK mb pn S) {w fr tk : Nat} (hw : w < 8) (hG5 : G 30 0 6 = some (1, 10 + w)) (hfr : E 0 7 = nI fr) (htk : E 0 8 = nI tk) (hft : fr + tk ≤ 40) {pv : Nat → Bool} (hv : ∀ T k, 1 ≤ k → k < 10 → cFit mb (N 1 (10 + w)) tk fr (tPut (tLike T S) 0 0 (nI k)) = pv k) (hQ : ∀ T2, Q (some (xI (fitS pv 1 9))) Y G (va_up (va_up N 31 T2) 30 E)) : V RX3 false cX3_barsThatFit 4 (some .int) none (d + 5) b 0 [some (xR 30 0), some (xR 3 0), none, none] [] Y G (va_up (va_up N 31 T) 30 E) Q := by
  have hmb := hk.mb
  have hpn := hk.pn
  refine V_iconst (v := nI 0) dX3_barsThatFit_0 (by decide) ?_
  refine V_ist2 dX3_barsThatFit_1 rfl ?_
  refine V_iconst (v := nI 1) dX3_barsThatFit_2 (by decide) ?_
  refine V_ist3 dX3_barsThatFit_3 rfl ?_
  refine xDown (P := fun i => ∀ T, V RX3 false cX3_barsThatFit 4 (some .int) none (d + 5) b 4 [some (xR 30 0), some (xR 3 0), some (xI (fitS pv 1 i)), some (xI (nI (1 + i)))] [] Y G (va_up (va_up N 31 T) 30 E) Q) 9 ?_ 0 (Nat.zero_le _) T 
  intro i hii hni T
  refine V_ild3 dX3_barsThatFit_4 ?_
  refine V_bipush (v := nI 9) dX3_barsThatFit_5 (by decide) ?_
  refine V_icmpgtN (tgt := 40) dX3_barsThatFit_7 (by decide) (by omega) (by omega) (fun c7 => ?_) (fun c7 => ?_)
  · skip
    refine V_ild2 dX3_barsThatFit_40 ?_
    refine V_ireturn dX3_barsThatFit_41 ⟨_, rfl, vp_nar_int _⟩ ?_
    rw [show i = 9 by omega]
    exact hQ _
  · skip
    refine V_ald0 dX3_barsThatFit_10 ?_
    refine V_getR dX3_barsThatFit_11 flX3_12 (hS.r30.1 0 (0, 3) rfl) (hS.r30.2 0 (31, 0) rfl) ?_
    refine V_ald1 dX3_barsThatFit_14 ?_
    refine V_comm (by decide) ?_
    refine V_iv1 dX3_barsThatFit_15 wlX3_51 mdX5_becomeLike miX5_becomeLike rfl ((hS.tr 31 rfl).1 0 (0, 5) rfl) rfl rfl (kX5_becomeLike (hS.tr 31 rfl) (hS.tr 3 rfl) (by decide) (by first | exact hN3 | (rw [va_up_no _ _ (by decide)]; exact hN3)) ⟨rfl, ?_⟩)
    refine V_comm (by decide) ?_
    refine V_ald0 dX3_barsThatFit_18 ?_
    refine V_getR dX3_barsThatFit_19 flX3_12 (hS.r30.1 0 (0, 3) rfl) (hS.r30.2 0 (31, 0) rfl) ?_
    refine V_ild3 dX3_barsThatFit_22 ?_
    refine V_putIq (by decide) dX3_barsThatFit_23 fwX3_116 ((hS.tr 31 rfl).1 0 (0, 5) rfl) ?_
    refine V_ild2 dX3_barsThatFit_26 ?_
    refine V_ald0 dX3_barsThatFit_27 ?_
    refine V_ild3 dX3_barsThatFit_28 ?_
    refine V_iv1 dX3_barsThatFit_29 wlX3_157 mdX3_bitIfFit miX3_bitIfFit rfl (hS.r30.1 0 (0, 3) rfl) rfl rfl (kX3_bitIfFit hS ((hk.like T).bar (k := 0) (by decide) (by decide) (nI (1 + i))) hw hG5 hfr htk hft (fun T3 => ⟨rfl, ?_⟩))
    rw [show cFit mb (N 1 (10 + w)) tk fr _ = pv (1 + i) from hv T (1 + i) (by omega) (by omega)]
    refine V_ior dX3_barsThatFit_32 ?_
    refine V_ist2 dX3_barsThatFit_33 rfl ?_
    refine V_incN3 dX3_barsThatFit_34 rfl ?_
    refine V_goto (tgt := 4) dX3_barsThatFit_37 (by decide) ?_
    exact hni (by omega) _
end KS
