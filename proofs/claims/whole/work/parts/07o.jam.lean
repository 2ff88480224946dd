section KS
variable {d : Nat} {b : Nat × Nat} {Y : xY} {G : xG} {N : xM} {E T S : xT} {Q : Option xAV → xY → xG → xM → Prop}
theorem kX3_jamCases (hS : xSt Y G) (hN3 : N 3 = S) {mb pn : Nat} (hk : tOK mb pn S) {m n p K : Nat} (hm : m < mb) (hn : n ≤ 60) (hp : p ≤ 10) (hK : K = 2 ^ pn) {pv : Nat → Bool} (hv : ∀ T k, k < K → (tRunOn mb n (tPut (tLike T S) 0 4 (nI k)) 8 m = nI 9 ↔ pv k = true)) (hQ : ∀ T2, Q (some (xJ (lN (jamN (fun i => p ^ bcN i * (10 - p) ^ (pn - bcN i)) pv K)))) Y G (va_up (va_up N 31 T2) 30 E)) : V RX3 false cX3_jamCases 11 (some .long) none (d + 4) b 0 [some (xR 30 0), some (xR 3 0), some (xI (nI m)), some (xI (nI n)), some (xI (nI p)), none, none, none, none, none, none] [] Y G (va_up (va_up N 31 T) 30 E) Q := by
  have hmb := hk.mb
  have hpn := hk.pn
  have hK2 : K ≤ 256 := by rw [hK]; exact Nat.pow_le_pow_right (n := 2) (by decide) hpn
  refine V_lconst (v := lN 0) dX3_jamCases_0 (rfl) ?_
  refine V_lst5 dX3_jamCases_1 rfl ?_
  refine V_iconst (v := nI 0) dX3_jamCases_3 (by decide) ?_
  refine V_ist7 dX3_jamCases_4 rfl ?_
  refine xDown (P := fun i => ∀ T l8 l9, V RX3 false cX3_jamCases 11 (some .long) none (d + 4) b 6 [some (xR 30 0), some (xR 3 0), some (xI (nI m)), some (xI (nI n)), some (xI (nI p)), some (xJ (lN (jamN (fun i => p ^ bcN i * (10 - p) ^ (pn - bcN i)) pv i))), none, some (xI (nI i)), l8, l9, none] [] Y G (va_up (va_up N 31 T) 30 E) Q) K ?_ 0 (Nat.zero_le _) T none none 
  intro i hii hni T l8 l9
  refine V_ild7 dX3_jamCases_6 ?_
  refine V_iconst (v := nI 1) dX3_jamCases_8 (by decide) ?_
  refine V_ald1 dX3_jamCases_9 ?_
  refine V_getI dX3_jamCases_10 flX3_131 ((hS.tr 3 rfl).1 0 (0, 5) rfl) ?_
  refine V_eqI (by rw [va_up_no _ _ (by decide), va_up_no _ _ (by decide), hN3]; exact hk.e3 : _ = nI pn) ?_
  refine V_ishl dX3_jamCases_13 ?_
  rw [nI_1shl (by omega), ← hK]
  refine V_icmpgeN (tgt := 111) dX3_jamCases_14 (by decide) (by omega) (by omega) (fun c14 => ?_) (fun c14 => ?_)
  · skip
    refine V_lld5 dX3_jamCases_111 ?_
    refine V_lreturn dX3_jamCases_113 rfl ?_
    rw [show i = K by omega]
    exact hQ _
  · skip
    refine V_ild7 dX3_jamCases_17 ?_
    refine V_is1 dX3_jamCases_19 wlX3_85 mdJ6_bitCount_0f7a4 msJ6_bitCount_0f7a4 rfl rfl (kJ6_bitCount ⟨rfl, ?_⟩)
    rw [bcJ i (by omega)]
    have hbp : bcN i ≤ pn := bcP pn (by omega) i (by omega)
    refine V_ist8 dX3_jamCases_22 rfl ?_
    refine V_ild4 dX3_jamCases_24 ?_
    refine V_i2l dX3_jamCases_26 ?_
    rw [nI_l (by omega)]
    refine V_ild8 dX3_jamCases_27 ?_
    refine V_isN2 dX3_jamCases_29 wnX3_163 mdX6_power msX6_power rfl rfl (kX6_power (by have := bcL i; omega) ⟨rfl, ?_⟩)
    refine V_bipush (v := nI 10) dX3_jamCases_32 (by decide) ?_
    refine V_ild4 dX3_jamCases_34 ?_
    refine V_isubN (by omega) dX3_jamCases_36 ?_
    refine V_i2l dX3_jamCases_37 ?_
    rw [nI_l (by omega)]
    refine V_ald1 dX3_jamCases_38 ?_
    refine V_getI dX3_jamCases_39 flX3_131 ((hS.tr 3 rfl).1 0 (0, 5) rfl) ?_
    refine V_eqI (by rw [va_up_no _ _ (by decide), va_up_no _ _ (by decide), hN3]; exact hk.e3 : _ = nI pn) ?_
    refine V_ild8 dX3_jamCases_42 ?_
    refine V_isubN (by omega) dX3_jamCases_44 ?_
    refine V_isN2 dX3_jamCases_45 wnX3_163 mdX6_power msX6_power rfl rfl (kX6_power (by have := bcL i; omega) ⟨rfl, ?_⟩)
    refine V_lmul dX3_jamCases_48 ?_
    rw [lN_mul]
    have hcs : p ^ bcN i * (10 - p) ^ (pn - bcN i) ≤ 10 ^ 8 := by
      refine Nat.le_trans (csB hp) ?_
      rw [show bcN i + (pn - bcN i) = pn by omega]
      exact Nat.pow_le_pow_right (by decide) (by omega)
    refine V_lst9 dX3_jamCases_49 rfl ?_
    refine V_lld9 dX3_jamCases_51 ?_
    refine V_lconst (v := lN 0) dX3_jamCases_53 (rfl) ?_
    refine V_lcmp dX3_jamCases_54 ?_
    refine V_ifle (tgt := 105) dX3_jamCases_55 (by decide) (fun c55 => ?_) (fun c55 => ?_)
    · replace c55 : p ^ bcN i * (10 - p) ^ (pn - bcN i) = 0 := by
        have := (pk_lLE (by omega) (by decide)).mp (show lN (p ^ bcN i * (10 - p) ^ (pn - bcN i)) ≤ lN 0 from (lg_cmp_le _ _).mp c55)
        omega
      refine V_incN7 dX3_jamCases_105 rfl ?_
      refine V_goto (tgt := 6) dX3_jamCases_108 (by decide) ?_
      have hq := hni (by omega)
      rw [jamN, show (if pv i = true then p ^ bcN i * (10 - p) ^ (pn - bcN i) else 0) = 0 by split <;> first | exact c55 | rfl, Nat.add_zero] at hq
      exact hq _ _ _
    · skip
      refine V_ald0 dX3_jamCases_58 ?_
      refine V_getR dX3_jamCases_59 flX3_12 (hS.r30.1 0 (0, 3) rfl) (hS.r30.2 0 (31, 0) rfl) ?_
      refine V_ald1 dX3_jamCases_62 ?_
      refine V_comm (by decide) ?_
      refine V_iv1 dX3_jamCases_63 wlX3_51 mdX5_becomeLike miX5_becomeLike rfl ((hS.tr 31 rfl).1 0 (0, 5) rfl) rfl rfl (kX5_becomeLike (hS.tr 31 rfl) (hS.tr 3 rfl) (by decide) (by first | exact hN3 | (rw [va_up_no _ _ (by decide)]; exact hN3)) ⟨rfl, ?_⟩)
      refine V_comm (by decide) ?_
      refine V_ald0 dX3_jamCases_66 ?_
      refine V_getR dX3_jamCases_67 flX3_12 (hS.r30.1 0 (0, 3) rfl) (hS.r30.2 0 (31, 0) rfl) ?_
      refine V_ild7 dX3_jamCases_70 ?_
      refine V_putIq (by decide) dX3_jamCases_72 fwX3_167 ((hS.tr 31 rfl).1 0 (0, 5) rfl) ?_
      refine V_ald0 dX3_jamCases_75 ?_
      refine V_ild3 dX3_jamCases_76 ?_
      refine V_comm (by decide) ?_
      refine V_iv1 dX3_jamCases_77 wlX3_55 mdX3_goOn miX3_goOn rfl (hS.r30.1 0 (0, 3) rfl) rfl rfl (kX3_goOn hS ((hk.like T).bar (k := 4) (by decide) (by decide) (nI i)) (by omega) ⟨rfl, ?_⟩)
      refine V_comm (by decide) ?_
      refine V_lld5 dX3_jamCases_80 ?_
      refine V_ald0 dX3_jamCases_82 ?_
      refine V_getR dX3_jamCases_83 flX3_12 (hS.r30.1 0 (0, 3) rfl) (hS.r30.2 0 (31, 0) rfl) ?_
      refine V_getR dX3_jamCases_86 flX3_170 ((hS.tr 31 rfl).1 0 (0, 5) rfl) (show G 31 0 7 = some (31, 8) from (hS.tr 31 rfl).2 7 (by decide) (by decide)) ?_
      refine V_ild2 dX3_jamCases_89 ?_
      refine V_iaq (by decide) dX3_jamCases_90 ((hS.tr 31 rfl).1 8 (1, 6) rfl) (by omega) (by decide) ?_
      refine V_bipush (v := nI 9) dX3_jamCases_91 (by decide) ?_
      refine V_icmpne (tgt := 101) dX3_jamCases_93 (by decide) (fun c93 => ?_) (fun c93 => ?_)
      · replace c93 : ¬ pv i = true := fun e => c93 ((hv T i (by omega)).mpr e)
        refine V_lconst (v := lN 0) dX3_jamCases_101 (rfl) ?_
        refine V_ladd dX3_jamCases_102 ?_
        refine V_lst5 dX3_jamCases_103 rfl ?_
        refine V_incN7 dX3_jamCases_105 rfl ?_
        refine V_goto (tgt := 6) dX3_jamCases_108 (by decide) ?_
        have hq := hni (by omega)
        rw [jamN, if_neg c93, ← lN_add] at hq
        exact hq _ _ _
      · replace c93 : pv i = true := (hv T i (by omega)).mp (Classical.byContradiction fun q => absurd c93 q)
        refine V_lld9 dX3_jamCases_96 ?_
        refine V_goto (tgt := 102) dX3_jamCases_98 (by decide) ?_
        refine V_ladd dX3_jamCases_102 ?_
        refine V_lst5 dX3_jamCases_103 rfl ?_
        refine V_incN7 dX3_jamCases_105 rfl ?_
        refine V_goto (tgt := 6) dX3_jamCases_108 (by decide) ?_
        have hq := hni (by omega)
        rw [jamN, if_pos c93, ← lN_add] at hq
        exact hq _ _ _
theorem kX3_disturb (hS : xSt Y G) {mb pn : Nat} (hk : tOK mb pn T) (hm : 1 ≤ mb) {x : Nat} (hx : x < 2 ^ 31) (hQ : Q none Y G (va_up N 31 (tDist T mb pn x))) : V RX3 false cX3_disturb 3 none none (d + 1) b 0 [some (xR 30 0), some (xI (nI x)), none] [] Y G (va_up N 31 T) Q := by
  have hmb := hk.mb
  have hpn := hk.pn
  have hp1 : 1 ≤ pn := hk.2.1
  refine V_ald0 dX3_disturb_0 ?_
  refine V_getR dX3_disturb_1 flX3_12 (hS.r30.1 0 (0, 3) rfl) (hS.r30.2 0 (31, 0) rfl) ?_
  refine V_getIr dX3_disturb_4 flX3_99 ((hS.tr 31 rfl).1 0 (0, 5) rfl) ?_
  refine V_eqI hk.e2 ?_
  refine V_ifeq (tgt := 20) dX3_disturb_7 (by decide) (fun c7 => ?_) (fun c7 => ?_)
  · exact absurd ((nI_eq (by omega) (by decide)).mp (show nI mb = nI 0 from c7)) (by omega)
  · skip
    refine V_ald0 dX3_disturb_10 ?_
    refine V_getR dX3_disturb_11 flX3_12 (hS.r30.1 0 (0, 3) rfl) (hS.r30.2 0 (31, 0) rfl) ?_
    refine V_getIr dX3_disturb_14 flX3_131 ((hS.tr 31 rfl).1 0 (0, 5) rfl) ?_
    refine V_eqI hk.e3 ?_
    refine V_ifne (tgt := 21) dX3_disturb_17 (by decide) (fun c17 => ?_) (fun c17 => ?_)
    · skip
      refine V_ild1 dX3_disturb_21 ?_
      refine V_ald0 dX3_disturb_22 ?_
      refine V_getR dX3_disturb_23 flX3_12 (hS.r30.1 0 (0, 3) rfl) (hS.r30.2 0 (31, 0) rfl) ?_
      refine V_getIr dX3_disturb_26 flX3_99 ((hS.tr 31 rfl).1 0 (0, 5) rfl) ?_
      refine V_eqI hk.e2 ?_
      refine V_irem dX3_disturb_29 (fun e => absurd ((nI_eq (by omega) (by decide)).mp (show nI mb = nI 0 from e)) (by omega)) ?_
      rw [pk_rem (by omega) (by omega) (by omega)]
      refine V_ist2 dX3_disturb_30 rfl ?_
      refine V_ald0 dX3_disturb_31 ?_
      refine V_getR dX3_disturb_32 flX3_12 (hS.r30.1 0 (0, 3) rfl) (hS.r30.2 0 (31, 0) rfl) ?_
      refine V_ild2 dX3_disturb_35 ?_
      refine V_iv1 dX3_disturb_36 wlX3_66 mdX5_isInTray miX5_isInTray rfl ((hS.tr 31 rfl).1 0 (0, 5) rfl) rfl rfl (kX5_isInTray (hS.tr 31 rfl) (by have := Nat.mod_lt x (show 0 < mb by omega); omega) ⟨rfl, ?_⟩)
      refine V_ifeqB (tgt := 59) dX3_disturb_39 (by decide) (fun c39 => ?_) (fun c39 => ?_)
      · skip
        refine V_ild1 dX3_disturb_59 ?_
        refine V_iconst (v := nI 3) dX3_disturb_60 (by decide) ?_
        refine V_irem dX3_disturb_61 (by decide) ?_
        rw [pk_rem (by omega) (by decide) (by decide)]
        refine V_ifne (tgt := 81) dX3_disturb_62 (by decide) (fun c62 => ?_) (fun c62 => ?_)
        · replace c62 : ¬ x % 3 = 0 := fun e => c62 (by rw [e]; decide)
          refine V_return dX3_disturb_81 rfl ?_
          unfold tDist at hQ
          rw [if_neg c39, if_neg c62] at hQ
          exact hQ
        · replace c62 : x % 3 = 0 := (nI_eq (by omega) (by decide)).mp (show nI (x % 3) = nI 0 from Classical.byContradiction fun q => absurd c62 q)
          refine V_ald0 dX3_disturb_65 ?_
          refine V_getR dX3_disturb_66 flX3_12 (hS.r30.1 0 (0, 3) rfl) (hS.r30.2 0 (31, 0) rfl) ?_
          refine V_ild1 dX3_disturb_69 ?_
          refine V_ald0 dX3_disturb_70 ?_
          refine V_getR dX3_disturb_71 flX3_12 (hS.r30.1 0 (0, 3) rfl) (hS.r30.2 0 (31, 0) rfl) ?_
          refine V_getIr dX3_disturb_74 flX3_131 ((hS.tr 31 rfl).1 0 (0, 5) rfl) ?_
          refine V_eqI hk.e3 ?_
          refine V_irem dX3_disturb_77 (fun e => absurd ((nI_eq (by omega) (by decide)).mp (show nI pn = nI 0 from e)) (by omega)) ?_
          rw [pk_rem (by omega) (by omega) (by omega)]
          refine V_iv1 dX3_disturb_78 wlX3_183 mdX5_swing miX5_swing rfl ((hS.tr 31 rfl).1 0 (0, 5) rfl) rfl rfl (kX5_swing (hS.tr 31 rfl) (by have := Nat.mod_lt x (show 0 < pn by omega); omega) ⟨rfl, ?_⟩)
          refine V_return dX3_disturb_81 rfl ?_
          unfold tDist at hQ
          rw [if_neg c39, if_pos c62] at hQ
          exact hQ
      · skip
        refine V_ald0 dX3_disturb_42 ?_
        refine V_getR dX3_disturb_43 flX3_12 (hS.r30.1 0 (0, 3) rfl) (hS.r30.2 0 (31, 0) rfl) ?_
        refine V_ild2 dX3_disturb_46 ?_
        refine V_ild1 dX3_disturb_47 ?_
        refine V_bipush (v := nI 9) dX3_disturb_48 (by decide) ?_
        refine V_irem dX3_disturb_50 (by decide) ?_
        rw [pk_rem (by omega) (by decide) (by decide)]
        refine V_iconst (v := nI 1) dX3_disturb_51 (by decide) ?_
        refine V_iaddN dX3_disturb_52 ?_
        refine V_iv2 dX3_disturb_53 wlX3_180 mdX5_throwAnew miX5_throwAnew rfl ((hS.tr 31 rfl).1 0 (0, 5) rfl) rfl rfl (kX5_throwAnew (hS.tr 31 rfl) (by have := Nat.mod_lt x (show 0 < mb by omega); omega) ⟨rfl, ?_⟩)
        refine V_goto (tgt := 81) dX3_disturb_56 (by decide) ?_
        refine V_return dX3_disturb_81 rfl ?_
        unfold tDist at hQ
        rw [if_pos c39] at hQ
        exact hQ
    · exact absurd ((nI_eq (by omega) (by decide)).mp (show nI pn = nI 0 from Classical.byContradiction fun q => absurd c17 q)) (by omega)
theorem kX3_cameByDraws (hS : xSt Y G) (hN3 : N 3 = S) {mb pn : Nat} (hk : tOK mb pn S) (hm : 1 ≤ mb) {n seed : Nat} (hn : n ≤ 60) (hsd : seed < 2147483647) {tr : Int32} (hQ : ∀ T2, Q (some (xI (tDraw mb pn tr n seed (tLike T S) (nI 0)))) Y G (va_up N 31 T2)) : V RX3 false cX3_cameByDraws 10 (some .int) none (d + 3) b 0 [some (xR 30 0), some (xR 3 0), some (xI (nI n)), some (xI (nI seed)), some (xI tr), none, none, none, none, none] [] Y G (va_up N 31 T) Q := by
  refine V_ald0 dX3_cameByDraws_0 ?_
  refine V_getR dX3_cameByDraws_1 flX3_12 (hS.r30.1 0 (0, 3) rfl) (hS.r30.2 0 (31, 0) rfl) ?_
  refine V_ald1 dX3_cameByDraws_4 ?_
  refine V_iv1 dX3_cameByDraws_5 wlX3_51 mdX5_becomeLike miX5_becomeLike rfl ((hS.tr 31 rfl).1 0 (0, 5) rfl) rfl rfl (kX5_becomeLike (hS.tr 31 rfl) (hS.tr 3 rfl) (by decide) (by first | exact hN3 | (rw [va_up_no _ _ (by decide)]; exact hN3)) ⟨rfl, ?_⟩)
  refine V_ild3 dX3_cameByDraws_8 ?_
  refine V_i2l dX3_cameByDraws_9 ?_
  rw [nI_l (by omega)]
  refine V_lst5 dX3_cameByDraws_10 rfl ?_
  refine V_iconst (v := nI 0) dX3_cameByDraws_12 (by decide) ?_
  refine V_ist7 dX3_cameByDraws_13 rfl ?_
  refine V_iconst (v := nI 0) dX3_cameByDraws_15 (by decide) ?_
  refine V_ist8 dX3_cameByDraws_16 rfl ?_
  refine xDown (P := fun i => ∀ T x a l9, x < 2147483647 → tOK mb pn T → (∀ T2, Q (some (xI (tDraw mb pn tr (n - i) x T a))) Y G (va_up N 31 T2)) → V RX3 false cX3_cameByDraws 10 (some .int) none (d + 3) b 18 [some (xR 30 0), some (xR 3 0), some (xI (nI n)), some (xI (nI seed)), some (xI tr), some (xJ (lN x)), none, some (xI a), some (xI (nI i)), l9] [] Y G (va_up N 31 T) Q) n ?_ 0 (Nat.zero_le _) _ _ _ none hsd (hk.like T) hQ 
  intro i hii hni T x a l9 hx hk hq
  refine V_ild8 dX3_cameByDraws_18 ?_
  refine V_ild2 dX3_cameByDraws_20 ?_
  refine V_icmpgeN (tgt := 89) dX3_cameByDraws_21 (by decide) (by omega) (by omega) (fun c21 => ?_) (fun c21 => ?_)
  · skip
    refine V_ild7 dX3_cameByDraws_89 ?_
    refine V_ireturn dX3_cameByDraws_91 ⟨_, rfl, vp_nar_int _⟩ ?_
    rw [show n - i = 0 by omega, tDraw] at hq
    exact hq _
  · skip
    refine V_lld5 dX3_cameByDraws_24 ?_
    refine V_ldc2 dX3_cameByDraws_26 wjX3_173 ?_
    refine V_lmul dX3_cameByDraws_29 ?_
    rw [show (16807 : Int64) = lN 16807 by decide, lN_mul]
    refine V_ldc2 dX3_cameByDraws_30 wjX3_175 ?_
    rw [show (2147483647 : Int64) = lN 2147483647 by decide]
    refine V_lrem dX3_cameByDraws_33 (by decide) ?_
    rw [pk_lRem (by omega) (by decide) (by decide)]
    refine V_lst5 dX3_cameByDraws_34 rfl ?_
    refine V_ald0 dX3_cameByDraws_36 ?_
    refine V_lld5 dX3_cameByDraws_37 ?_
    refine V_l2i dX3_cameByDraws_39 ?_
    rw [lN_i]
    have hx1 : x * 16807 % 2147483647 < 2 ^ 31 := by omega
    have hkd := hk.dist hm (x * 16807 % 2147483647)
    refine V_iv1 dX3_cameByDraws_40 wlX3_177 mdX3_disturb miX3_disturb rfl (hS.r30.1 0 (0, 3) rfl) rfl rfl (kX3_disturb hS hk hm hx1 ⟨rfl, ?_⟩)
    refine V_ald0 dX3_cameByDraws_43 ?_
    refine V_getR dX3_cameByDraws_44 flX3_12 (hS.r30.1 0 (0, 3) rfl) (hS.r30.2 0 (31, 0) rfl) ?_
    refine V_ild4 dX3_cameByDraws_47 ?_
    refine V_iv1 dX3_cameByDraws_49 wlX3_119 mdX5_bitsAt miX5_bitsAt rfl ((hS.tr 31 rfl).1 0 (0, 5) rfl) rfl rfl (kX5_bitsAt (hS.tr 31 rfl) hkd.e2 hkd.mb ⟨rfl, ?_⟩)
    refine V_ist9 dX3_cameByDraws_52 rfl ?_
    refine V_ald0 dX3_cameByDraws_54 ?_
    refine V_getR dX3_cameByDraws_55 flX3_12 (hS.r30.1 0 (0, 3) rfl) (hS.r30.2 0 (31, 0) rfl) ?_
    refine V_iv0 dX3_cameByDraws_58 wlX3_63 mdX5_pass miX5_pass rfl ((hS.tr 31 rfl).1 0 (0, 5) rfl) rfl rfl (kX5_pass (hS.tr 31 rfl) hkd.e2 hkd.mb hkd.safe ⟨rfl, ?_⟩)
    refine V_ild7 dX3_cameByDraws_61 ?_
    refine V_ald0 dX3_cameByDraws_63 ?_
    refine V_getR dX3_cameByDraws_64 flX3_12 (hS.r30.1 0 (0, 3) rfl) (hS.r30.2 0 (31, 0) rfl) ?_
    refine V_ild4 dX3_cameByDraws_67 ?_
    refine V_iv1 dX3_cameByDraws_69 wlX3_119 mdX5_bitsAt miX5_bitsAt rfl ((hS.tr 31 rfl).1 0 (0, 5) rfl) rfl rfl (kX5_bitsAt (hS.tr 31 rfl) hkd.pass.e2 hkd.mb ⟨rfl, ?_⟩)
    refine V_ild9 dX3_cameByDraws_72 ?_
    refine V_iconst (v := (-1)) dX3_cameByDraws_74 (by decide) ?_
    refine V_ixor dX3_cameByDraws_75 ?_
    refine V_iand dX3_cameByDraws_76 ?_
    refine V_is1 dX3_cameByDraws_77 wlX3_85 mdJ6_bitCount_0f7a4 msJ6_bitCount_0f7a4 rfl rfl (kJ6_bitCount ⟨rfl, ?_⟩)
    refine V_iadd dX3_cameByDraws_80 ?_
    refine V_ist7 dX3_cameByDraws_81 rfl ?_
    refine V_incN8 dX3_cameByDraws_83 rfl ?_
    refine V_goto (tgt := 18) dX3_cameByDraws_86 (by decide) ?_
    rw [show n - i = n - (i + 1) + 1 by omega, tDraw] at hq
    exact hni (by omega) _ _ _ _ (by omega) hkd.pass hq
end KS
