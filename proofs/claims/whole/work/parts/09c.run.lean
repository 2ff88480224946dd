def cShO (n all : Int32) (T : xT) : Nat → Int32
  | 0 => n
  | i + 1 => cShO n all T i - n * T 14 i / all
def cShA (T : xT) (p : Nat) : Nat → Nat
  | 0 => 0
  | i + 1 => if i < p ∧ 0 < T 14 i then cShA T p i + 1 else cShA T p i
def cSh (T : xT) (pn p : Nat) (n : Int32) : Int32 := if tWent T pn ≤ 0 then 0 else if T 14 p = 0 then 0 else n * T 14 p / tWent T pn + (if nI (cShA T p pn) < cShO n (tWent T pn) T pn then nI 1 else nI 0)
theorem gcd_half {x y : Nat} (hy : y ≠ 0) (hxy : y ≤ x) {k : Nat} (h : x * y < 2 ^ (k + 1)) : y * (x % y) < 2 ^ k := by
  have h1 : x % y < y := Nat.mod_lt _ (by omega)
  have h2 : y + x % y ≤ x := by
    have := Nat.div_add_mod x y
    have h3 : 1 ≤ x / y := (Nat.one_le_div_iff (by omega)).mpr hxy
    have h4 : y * 1 ≤ y * (x / y) := Nat.mul_le_mul_left _ h3
    omega
  have h5 : 2 * (x % y) ≤ x := by omega
  have h6 : y * (2 * (x % y)) ≤ y * x := Nat.mul_le_mul_left _ h5
  rw [Nat.pow_succ] at h
  have e1 : y * (2 * (x % y)) = 2 * (y * (x % y)) := by rw [Nat.mul_left_comm]
  have e2 : y * x = x * y := Nat.mul_comm _ _
  omega
section K6
variable {d : Nat} {b : Nat × Nat} {Y : xY} {G : xG} {N : xM} {T : xT} {Q : Option xAV → xY → xG → xM → Prop}
theorem kX6_order (hS : xSt Y G) (hN3 : N 3 = T) {mb pn : Nat} (hc : cSt T mb pn) {z y : Int32} {v β : Nat → Int32} (hh : ∀ n, z = nI n → n ≤ 40 → 1 ≤ mb → tOK mb pn T → (∀ j, j < mb → ∃ k, k ≤ 9 ∧ T 6 j = nI k) ∧ (∀ U c, c ∈ pL mb → tBits (tRunOn mb n (tReW (dg mb c) (T 6) (tLike U T) mb)) (nI 9) (nI 9) mb = β c) ∧ (∀ c c', c ∈ pL mb → c' ∈ pL mb → wayN (T 0 0) (T 6) (dg mb c) mb = wayN (T 0 0) (T 6) (dg mb c') mb → β c = β c') ∧ ∀ c, c ∈ pL mb → pWt (β c) (T 6) (dg mb c) mb = v c) (hv0 : ∀ c, c ∈ pL mb → 0 ≤ v c) (hQ : ∀ N2, cStay N N2 → Q (some (xI (if nI pn = 0 then -1000002 else if rIn z (nI 1) (nI 40) ∧ ¬ y < -1 then aOrd mb v y else -1000001))) Y G N2) : V RX6 false cX6_order 3 (some .int) none (d + 6) b 0 [some (xR 0 0), some (xI z), some (xI y)] [] Y G N Q := by
  refine V_ald0 dX6_order_0 ?_
  refine V_iv0 dX6_order_1 wlX6_144 mdX6_noRun miX6_noRun rfl (hS.r0.1 0 (0, 6) rfl) rfl rfl (kX6_noRun hS hN3 hc ⟨rfl, ?_⟩)
  refine V_ifeqB (tgt := 10) dX6_order_4 (by decide) (fun c4 => ?_) (fun c4 => ?_)
  · skip
    refine V_ild1 dX6_order_10 ?_
    refine V_iconst (v := nI 1) dX6_order_11 (by decide) ?_
    refine V_bipush (v := nI 40) dX6_order_12 (by decide) ?_
    refine V_is3 dX6_order_14 wlX6_217 mdX6_outside msX6_outside rfl rfl (kX6_outside ⟨rfl, ?_⟩)
    refine V_ifneB (tgt := 25) dX6_order_17 (by decide) (fun c17 => ?_) (fun c17 => ?_)
    · skip
      refine V_ldc dX6_order_25 wkX6_69 ?_
      refine V_ireturn dX6_order_27 ⟨_, rfl, vp_nar_int _⟩ ?_
      have hq := hQ N (cStay.rf N)
      rw [if_neg c4, if_neg (fun h => c17 h.1)] at hq
      exact hq
    · replace c17 := Classical.not_not.mp c17
      refine V_ild2 dX6_order_20 ?_
      refine V_iconst (v := (-1)) dX6_order_21 (by decide) ?_
      refine V_icmpge (tgt := 28) dX6_order_22 (by decide) (fun c22 => ?_) (fun c22 => ?_)
      · skip
        obtain ⟨hm1, hk⟩ := hc.ok0 c4
        have hb := hc.b6
        have c17b := c17
        obtain ⟨k, hk0, hk1, rfl⟩ := rIn_k c17b (by decide) (by decide)
        
        refine V_ild2 dX6_order_28 ?_
        refine V_ald0 dX6_order_29 ?_
        refine V_getR dX6_order_30 flX6_26 (hS.r0.1 0 (0, 6) rfl) (hS.r0.2 2 (3, 0) rfl) ?_
        refine V_getI dX6_order_33 flX6_242 ((hS.tr 3 rfl).1 0 (0, 5) rfl) ?_
        refine V_eqI (by rw [hN3]; exact hc.1 : _ = nI mb) ?_
        refine V_icmplt (tgt := 42) dX6_order_36 (by decide) (fun c36 => ?_) (fun c36 => ?_)
        · skip
          refine V_ald0 dX6_order_42 ?_
          refine V_getR dX6_order_43 flX6_43 (hS.r0.1 0 (0, 6) rfl) (hS.r0.2 5 (30, 0) rfl) ?_
          refine V_ald0 dX6_order_46 ?_
          refine V_getR dX6_order_47 flX6_26 (hS.r0.1 0 (0, 6) rfl) (hS.r0.2 2 (3, 0) rfl) ?_
          refine V_ild1 dX6_order_50 ?_
          obtain ⟨hW, hβ, hkey, hv⟩ := hh k rfl hk1 hm1 hk
          refine V_in2 ?_
          refine V_iv2 dX6_order_51 wlX6_246 mdX3_chooseOrder miX3_chooseOrder rfl (hS.r30.1 0 (0, 3) rfl) rfl rfl (kX3_chooseOrder hS hN3 hk hm1 (n := k) (by omega) hW hβ hkey hv hv0 (fun T2 E2 g8 g5 => ⟨rfl, ?_⟩))
          refine V_ild2 dX6_order_54 ?_
          refine V_ifge (tgt := 68) dX6_order_55 (by decide) (fun c55 => ?_) (fun c55 => ?_)
          · skip
            obtain ⟨jj, hjj, rfl⟩ : ∃ jj, jj < mb ∧ y = nI jj := by
              rcases pk_ix y (n := mb) (by omega) with q | q | q
              · exact absurd c55 (Int32.not_le.mpr q)
              · exact absurd c36 (Int32.not_lt.mpr q)
              · exact q
            refine V_ald0 dX6_order_68 ?_
            refine V_getR dX6_order_69 flX6_43 (hS.r0.1 0 (0, 6) rfl) (hS.r0.2 5 (30, 0) rfl) ?_
            refine V_ild2 dX6_order_72 ?_
            refine V_iv1 dX6_order_73 wlX6_249 mdX3_chosenAt miX3_chosenAt rfl (hS.r30.1 0 (0, 3) rfl) rfl rfl (kX3_chosenAt hS (by omega) ⟨rfl, ?_⟩)
            refine V_ireturn dX6_order_76 ⟨_, rfl, vp_nar_int _⟩ ?_
            have hq := hQ _ (cStay.a N T2 E2)
            rw [if_neg c4, if_pos ⟨c17, Int32.not_lt.mpr c22⟩, aOrd, if_neg (Int32.not_lt.mpr c55), if_pos c36, nI_clamp (by omega)] at hq
            rw [(g5 jj hjj).1]
            exact hq
          · skip
            refine V_ald0 dX6_order_58 ?_
            refine V_getR dX6_order_59 flX6_43 (hS.r0.1 0 (0, 6) rfl) (hS.r0.2 5 (30, 0) rfl) ?_
            refine V_iv0 dX6_order_62 wlX6_239 mdX3_most miX3_most rfl (hS.r30.1 0 (0, 3) rfl) rfl rfl (kX3_most hS ⟨rfl, ?_⟩)
            refine V_goto (tgt := 76) dX6_order_65 (by decide) ?_
            refine V_ireturn dX6_order_76 ⟨_, rfl, vp_nar_int _⟩ ?_
            have hq := hQ _ (cStay.a N T2 E2)
            rw [if_neg c4, if_pos ⟨c17, Int32.not_lt.mpr c22⟩, aOrd, if_pos (Int32.not_le.mp c55)] at hq
            rw [g8]
            exact hq
        · skip
          refine V_ldc dX6_order_39 wkX6_245 ?_
          refine V_ireturn dX6_order_41 ⟨_, rfl, vp_nar_int _⟩ ?_
          have hq := hQ N (cStay.rf N)
          rw [if_neg c4, if_pos ⟨c17, Int32.not_lt.mpr c22⟩, aOrd, if_neg (fun h => c36 (Int32.lt_of_lt_of_le h (Int32.not_lt.mp (nI_pos (by omega))))), if_neg c36] at hq
          exact hq
      · skip
        refine V_ldc dX6_order_25 wkX6_69 ?_
        refine V_ireturn dX6_order_27 ⟨_, rfl, vp_nar_int _⟩ ?_
        have hq := hQ N (cStay.rf N)
        rw [if_neg c4, if_neg (fun h => h.2 (Int32.not_le.mp c22))] at hq
        exact hq
  · skip
    refine V_ldc dX6_order_7 wkX6_143 ?_
    refine V_ireturn dX6_order_9 ⟨_, rfl, vp_nar_int _⟩ ?_
    have hq := hQ N (cStay.rf N)
    rw [if_pos c4] at hq
    exact hq
theorem kX6_setsOf (hS : xSt Y G) (hN3 : N 3 = T) {mb pn : Nat} (hk : tOK mb pn T) {z y : Int32} {F : Nat} (hF : tOut T mb = nI F) (hF2 : F < 64) (hQ : Q (some (xI (aSets (rSet (nI F) (fun i => tWt T (nI i) mb) z (F + 1)) y))) Y G N) : V RX6 false cX6_setsOf 8 (some .int) none (d + 3) b 0 [some (xR 0 0), some (xI z), some (xI y), none, none, none, none, none] [] Y G N Q := by
  refine V_ald0 dX6_setsOf_0 ?_
  refine V_getR dX6_setsOf_1 flX6_26 (hS.r0.1 0 (0, 6) rfl) (hS.r0.2 2 (3, 0) rfl) ?_
  refine V_iv0 dX6_setsOf_4 wlX6_339 mdX5_bitsOutOfTrays miX5_bitsOutOfTrays rfl ((hS.tr 3 rfl).1 0 (0, 5) rfl) rfl rfl (kX5_bitsOutOfTraysN (hS.tr 3 rfl) hN3 hk.e2 hk.mb ⟨rfl, ?_⟩)
  rw [hF]
  refine V_ist3 dX6_setsOf_7 rfl ?_
  refine V_iconst (v := nI 0) dX6_setsOf_8 (by decide) ?_
  refine V_ist4 dX6_setsOf_9 rfl ?_
  refine V_ild3 dX6_setsOf_11 ?_
  refine V_ist5 dX6_setsOf_12 rfl ?_
  refine V_iconst (v := nI 0) dX6_setsOf_14 (by decide) ?_
  refine V_ist6 dX6_setsOf_15 rfl ?_
  refine V_iconst (v := nI 0) dX6_setsOf_17 (by decide) ?_
  refine V_ist7 dX6_setsOf_18 rfl ?_
  refine xDown (P := fun q => V RX6 false cX6_setsOf 8 (some .int) none (d + 3) b 20 [some (xR 0 0), some (xI z), some (xI y), some (xI (nI F)), some (xI (nI (rSet (nI F) (fun i => tWt T (nI i) mb) z q).1)), some (xI (rSet (nI F) (fun i => tWt T (nI i) mb) z q).2.1), some (xI (rSet (nI F) (fun i => tWt T (nI i) mb) z q).2.2), some (xI (nI q))] [] Y G N Q) (F + 1) ?_ 0 (Nat.zero_le _)
  intro q hiq hnq
  refine V_ild7 dX6_setsOf_20 ?_
  refine V_ild3 dX6_setsOf_22 ?_
  refine V_icmpgtN (tgt := 71) dX6_setsOf_23 (by decide) (by omega) (by omega) (fun c23 => ?_) (fun c23 => ?_)
  · skip
    rw [show F + 1 = q by omega] at hQ
    unfold aSets at hQ
    refine V_ild2 dX6_setsOf_71 ?_
    refine V_ifne (tgt := 78) dX6_setsOf_72 (by decide) (fun c72 => ?_) (fun c72 => ?_)
    · skip
      refine V_ild4 dX6_setsOf_78 ?_
      refine V_ifne (tgt := 85) dX6_setsOf_80 (by decide) (fun c80 => ?_) (fun c80 => ?_)
      · skip
        refine V_ild2 dX6_setsOf_85 ?_
        refine V_iconst (v := nI 1) dX6_setsOf_86 (by decide) ?_
        refine V_icmpne (tgt := 95) dX6_setsOf_87 (by decide) (fun c87 => ?_) (fun c87 => ?_)
        · skip
          refine V_ild6 dX6_setsOf_95 ?_
          refine V_ireturn dX6_setsOf_97 ⟨_, rfl, vp_nar_int _⟩ ?_
          rw [if_neg c72, if_neg c80, if_neg c87] at hQ
          exact hQ
        · skip
          refine V_ild5 dX6_setsOf_90 ?_
          refine V_goto (tgt := 97) dX6_setsOf_92 (by decide) ?_
          refine V_ireturn dX6_setsOf_97 ⟨_, rfl, vp_nar_int _⟩ ?_
          rw [if_neg c72, if_neg c80, if_pos c87] at hQ
          exact hQ
      · skip
        refine V_iconst (v := 0) dX6_setsOf_83 (by decide) ?_
        refine V_ireturn dX6_setsOf_84 ⟨_, rfl, vp_nar_int _⟩ ?_
        rw [if_neg c72, if_pos c80] at hQ
        exact hQ
    · skip
      refine V_ild4 dX6_setsOf_75 ?_
      refine V_ireturn dX6_setsOf_77 ⟨_, rfl, vp_nar_int _⟩ ?_
      rw [if_pos c72] at hQ
      exact hQ
  · skip
    refine V_ild7 dX6_setsOf_26 ?_
    refine V_ild3 dX6_setsOf_28 ?_
    refine V_iconst (v := (-1)) dX6_setsOf_29 (by decide) ?_
    refine V_ixor dX6_setsOf_30 ?_
    refine V_iand dX6_setsOf_31 ?_
    refine V_ifne (tgt := 65) dX6_setsOf_32 (by decide) (fun c32 => ?_) (fun c32 => ?_)
    · skip
      refine V_incN7 dX6_setsOf_65 rfl ?_
      refine V_goto (tgt := 20) dX6_setsOf_68 (by decide) ?_
      have hnq := hnq (by omega)
      rw [rSet, if_neg (fun h => c32 h.1)] at hnq
      exact hnq
    · skip
      refine V_ald0 dX6_setsOf_35 ?_
      refine V_getR dX6_setsOf_36 flX6_26 (hS.r0.1 0 (0, 6) rfl) (hS.r0.2 2 (3, 0) rfl) ?_
      refine V_ild7 dX6_setsOf_39 ?_
      refine V_iv1 dX6_setsOf_41 wlX6_342 mdX5_weightOf miX5_weightOf rfl ((hS.tr 3 rfl).1 0 (0, 5) rfl) rfl rfl (kX5_weightOfN (hS.tr 3 rfl) hN3 hk.e2 hk.mb ⟨rfl, ?_⟩)
      refine V_ild1 dX6_setsOf_44 ?_
      refine V_icmpne (tgt := 65) dX6_setsOf_45 (by decide) (fun c45 => ?_) (fun c45 => ?_)
      · skip
        refine V_incN7 dX6_setsOf_65 rfl ?_
        refine V_goto (tgt := 20) dX6_setsOf_68 (by decide) ?_
        have hnq := hnq (by omega)
        rw [rSet, if_neg (fun h => c45 h.2)] at hnq
        exact hnq
      · skip
        refine V_incN4 dX6_setsOf_48 rfl ?_
        refine V_ild5 dX6_setsOf_51 ?_
        refine V_ild7 dX6_setsOf_53 ?_
        refine V_iand dX6_setsOf_55 ?_
        refine V_ist5 dX6_setsOf_56 rfl ?_
        refine V_ild6 dX6_setsOf_58 ?_
        refine V_ild7 dX6_setsOf_60 ?_
        refine V_ior dX6_setsOf_62 ?_
        refine V_ist6 dX6_setsOf_63 rfl ?_
        refine V_incN7 dX6_setsOf_65 rfl ?_
        refine V_goto (tgt := 20) dX6_setsOf_68 (by decide) ?_
        have hnq := hnq (by omega)
        rw [rSet, if_pos ⟨c32, c45⟩] at hnq
        exact hnq
theorem kX6_sets (hS : xSt Y G) (hN3 : N 3 = T) {mb pn : Nat} (hc : cSt T mb pn) {z y w : Int32} (hw : 1 ≤ mb → tOK mb pn T → ∃ F, F < 64 ∧ tOut T mb = nI F ∧ w = aSets (rSet (nI F) (fun i => tWt T (nI i) mb) z (F + 1)) y) (hQ : Q (some (xI (if nI pn = 0 then -1000002 else if rIn z (nI 0) (nI 54) ∧ rIn y (nI 0) (nI 2) then w else -1000001))) Y G N) : V RX6 false cX6_sets 3 (some .int) none (d + 4) b 0 [some (xR 0 0), some (xI z), some (xI y)] [] Y G N Q := by
  refine V_ald0 dX6_sets_0 ?_
  refine V_iv0 dX6_sets_1 wlX6_144 mdX6_noRun miX6_noRun rfl (hS.r0.1 0 (0, 6) rfl) rfl rfl (kX6_noRun hS hN3 hc ⟨rfl, ?_⟩)
  refine V_ifeqB (tgt := 10) dX6_sets_4 (by decide) (fun c4 => ?_) (fun c4 => ?_)
  · skip
    refine V_ild1 dX6_sets_10 ?_
    refine V_iconst (v := nI 0) dX6_sets_11 (by decide) ?_
    refine V_bipush (v := nI 54) dX6_sets_12 (by decide) ?_
    refine V_is3 dX6_sets_14 wlX6_217 mdX6_outside msX6_outside rfl rfl (kX6_outside ⟨rfl, ?_⟩)
    refine V_ifneB (tgt := 29) dX6_sets_17 (by decide) (fun c17 => ?_) (fun c17 => ?_)
    · skip
      refine V_ldc dX6_sets_29 wkX6_69 ?_
      refine V_ireturn dX6_sets_31 ⟨_, rfl, vp_nar_int _⟩ ?_
      rw [if_neg c4, if_neg (fun h => c17 h.1)] at hQ
      exact hQ
    · replace c17 := Classical.not_not.mp c17
      refine V_ild2 dX6_sets_20 ?_
      refine V_iconst (v := nI 0) dX6_sets_21 (by decide) ?_
      refine V_iconst (v := nI 2) dX6_sets_22 (by decide) ?_
      refine V_is3 dX6_sets_23 wlX6_217 mdX6_outside msX6_outside rfl rfl (kX6_outside ⟨rfl, ?_⟩)
      refine V_ifeqB (tgt := 32) dX6_sets_26 (by decide) (fun c26 => ?_) (fun c26 => ?_)
      · replace c26 := Classical.not_not.mp c26
        obtain ⟨hm1, hk⟩ := hc.ok0 c4
        have hb := hc.b6
        obtain ⟨F, hF2, hF, hw⟩ := hw hm1 hk
        refine V_ald0 dX6_sets_32 ?_
        refine V_ild1 dX6_sets_33 ?_
        refine V_ild2 dX6_sets_34 ?_
        refine V_iv2 dX6_sets_35 wlX6_256 mdX6_setsOf miX6_setsOf rfl (hS.r0.1 0 (0, 6) rfl) rfl rfl (kX6_setsOf hS hN3 hk hF hF2 ⟨rfl, ?_⟩)
        refine V_ireturn dX6_sets_38 ⟨_, rfl, vp_nar_int _⟩ ?_
        rw [if_neg c4, if_pos ⟨c17, c26⟩, hw] at hQ
        exact hQ
      · skip
        refine V_ldc dX6_sets_29 wkX6_69 ?_
        refine V_ireturn dX6_sets_31 ⟨_, rfl, vp_nar_int _⟩ ?_
        rw [if_neg c4, if_neg (fun h => c26 h.2)] at hQ
        exact hQ
  · skip
    refine V_ldc dX6_sets_7 wkX6_143 ?_
    refine V_ireturn dX6_sets_9 ⟨_, rfl, vp_nar_int _⟩ ?_
    rw [if_pos c4] at hQ
    exact hQ
theorem kX6_shareOf (hS : xSt Y G) (hN3 : N 3 = T) {mb pn : Nat} (hk : tOK mb pn T) {p : Nat} (hp : p < pn) {z : Int32} (hQ : Q (some (xI (cSh T pn p z))) Y G N) : V RX6 false cX6_shareOf 7 (some .int) none (d + 1) b 0 [some (xR 0 0), some (xI (nI p)), some (xI z), none, none, none, none] [] Y G N Q := by
  have hpn := hk.pn
  refine V_ald0 dX6_shareOf_0 ?_
  refine V_getR dX6_shareOf_1 flX6_26 (hS.r0.1 0 (0, 6) rfl) (hS.r0.2 2 (3, 0) rfl) ?_
  refine V_iv0 dX6_shareOf_4 wlX6_335 mdX5_wentOfAll miX5_wentOfAll rfl ((hS.tr 3 rfl).1 0 (0, 5) rfl) rfl rfl (kX5_wentOfAllN (hS.tr 3 rfl) hN3 hk.e3 hk.pn ⟨rfl, ?_⟩)
  refine V_ist3 dX6_shareOf_7 rfl ?_
  refine V_ild3 dX6_shareOf_8 ?_
  refine V_ifle (tgt := 24) dX6_shareOf_9 (by decide) (fun c9 => ?_) (fun c9 => ?_)
  · skip
    refine V_iconst (v := 0) dX6_shareOf_24 (by decide) ?_
    refine V_ireturn dX6_shareOf_25 ⟨_, rfl, vp_nar_int _⟩ ?_
    rw [cSh, if_pos c9] at hQ
    exact hQ
  · skip
    refine V_ald0 dX6_shareOf_12 ?_
    refine V_getR dX6_shareOf_13 flX6_26 (hS.r0.1 0 (0, 6) rfl) (hS.r0.2 2 (3, 0) rfl) ?_
    refine V_getR dX6_shareOf_16 flX6_202 ((hS.tr 3 rfl).1 0 (0, 5) rfl) (show G 3 0 13 = some (3, 14) from (hS.tr 3 rfl).2 13 (by decide) (by decide)) ?_
    refine V_ild1 dX6_shareOf_19 ?_
    refine V_ia dX6_shareOf_20 ((hS.tr 3 rfl).1 14 (1, 8) rfl) (by omega) (by decide) ?_
    refine V_eqI (by rw [hN3] : _ = T 14 p) ?_
    refine V_ifne (tgt := 26) dX6_shareOf_21 (by decide) (fun c21 => ?_) (fun c21 => ?_)
    · skip
      have hne : ¬ tWent T pn = 0 := fun e => c9 (by rw [e]; decide)
      rw [cSh, if_neg c9, if_neg c21] at hQ
      refine V_ild2 dX6_shareOf_26 ?_
      refine V_ist4 dX6_shareOf_27 rfl ?_
      refine V_iconst (v := nI 0) dX6_shareOf_29 (by decide) ?_
      refine V_ist5 dX6_shareOf_30 rfl ?_
      refine V_iconst (v := nI 0) dX6_shareOf_32 (by decide) ?_
      refine V_ist6 dX6_shareOf_33 rfl ?_
      refine xDown (P := fun q => V RX6 false cX6_shareOf 7 (some .int) none (d + 1) b 35 [some (xR 0 0), some (xI (nI p)), some (xI z), some (xI (tWent T pn)), some (xI (cShO z (tWent T pn) T q)), some (xI (nI (cShA T p q))), some (xI (nI q))] [] Y G N Q) pn ?_ 0 (Nat.zero_le _)
      intro q hiq hnq
      refine V_ild6 dX6_shareOf_35 ?_
      refine V_ald0 dX6_shareOf_37 ?_
      refine V_getR dX6_shareOf_38 flX6_26 (hS.r0.1 0 (0, 6) rfl) (hS.r0.2 2 (3, 0) rfl) ?_
      refine V_getI dX6_shareOf_41 flX6_134 ((hS.tr 3 rfl).1 0 (0, 5) rfl) ?_
      refine V_eqI (by rw [hN3]; exact hk.e3 : _ = nI pn) ?_
      refine V_icmpgeN (tgt := 94) dX6_shareOf_44 (by decide) (by omega) (by omega) (fun c44 => ?_) (fun c44 => ?_)
      · skip
        rw [show q = pn by omega]
        refine V_ild2 dX6_shareOf_94 ?_
        refine V_ald0 dX6_shareOf_95 ?_
        refine V_getR dX6_shareOf_96 flX6_26 (hS.r0.1 0 (0, 6) rfl) (hS.r0.2 2 (3, 0) rfl) ?_
        refine V_getR dX6_shareOf_99 flX6_202 ((hS.tr 3 rfl).1 0 (0, 5) rfl) (show G 3 0 13 = some (3, 14) from (hS.tr 3 rfl).2 13 (by decide) (by decide)) ?_
        refine V_ild1 dX6_shareOf_102 ?_
        refine V_ia dX6_shareOf_103 ((hS.tr 3 rfl).1 14 (1, 8) rfl) (by omega) (by decide) ?_
        refine V_eqI (by rw [hN3] : _ = T 14 p) ?_
        refine V_imul dX6_shareOf_104 ?_
        refine V_ild3 dX6_shareOf_105 ?_
        refine V_idiv dX6_shareOf_106 hne ?_
        refine V_ild5 dX6_shareOf_107 ?_
        refine V_ild4 dX6_shareOf_109 ?_
        refine V_icmpge (tgt := 118) dX6_shareOf_111 (by decide) (fun c111 => ?_) (fun c111 => ?_)
        · skip
          refine V_iconst (v := nI 0) dX6_shareOf_118 (by decide) ?_
          refine V_iadd dX6_shareOf_119 ?_
          refine V_ireturn dX6_shareOf_120 ⟨_, rfl, vp_nar_int _⟩ ?_
          rw [if_neg (Int32.not_lt.mpr c111)] at hQ
          exact hQ
        · skip
          refine V_iconst (v := nI 1) dX6_shareOf_114 (by decide) ?_
          refine V_goto (tgt := 119) dX6_shareOf_115 (by decide) ?_
          refine V_iadd dX6_shareOf_119 ?_
          refine V_ireturn dX6_shareOf_120 ⟨_, rfl, vp_nar_int _⟩ ?_
          rw [if_pos (Int32.not_le.mp c111)] at hQ
          exact hQ
      · skip
        refine V_ild4 dX6_shareOf_47 ?_
        refine V_ild2 dX6_shareOf_49 ?_
        refine V_ald0 dX6_shareOf_50 ?_
        refine V_getR dX6_shareOf_51 flX6_26 (hS.r0.1 0 (0, 6) rfl) (hS.r0.2 2 (3, 0) rfl) ?_
        refine V_getR dX6_shareOf_54 flX6_202 ((hS.tr 3 rfl).1 0 (0, 5) rfl) (show G 3 0 13 = some (3, 14) from (hS.tr 3 rfl).2 13 (by decide) (by decide)) ?_
        refine V_ild6 dX6_shareOf_57 ?_
        refine V_ia dX6_shareOf_59 ((hS.tr 3 rfl).1 14 (1, 8) rfl) (by omega) (by decide) ?_
        refine V_eqI (by rw [hN3] : _ = T 14 q) ?_
        refine V_imul dX6_shareOf_60 ?_
        refine V_ild3 dX6_shareOf_61 ?_
        refine V_idiv dX6_shareOf_62 hne ?_
        refine V_isub dX6_shareOf_63 ?_
        refine V_ist4 dX6_shareOf_64 rfl ?_
        refine V_ild6 dX6_shareOf_66 ?_
        refine V_ild1 dX6_shareOf_68 ?_
        refine V_icmpgeN (tgt := 88) dX6_shareOf_69 (by decide) (by omega) (by omega) (fun c69 => ?_) (fun c69 => ?_)
        · skip
          refine V_incN6 dX6_shareOf_88 rfl ?_
          refine V_goto (tgt := 35) dX6_shareOf_91 (by decide) ?_
          have hnq := hnq (by omega)
          rw [cShO, cShA, if_neg (fun h => absurd h.1 (by omega))] at hnq
          exact hnq
        · skip
          refine V_ald0 dX6_shareOf_72 ?_
          refine V_getR dX6_shareOf_73 flX6_26 (hS.r0.1 0 (0, 6) rfl) (hS.r0.2 2 (3, 0) rfl) ?_
          refine V_getR dX6_shareOf_76 flX6_202 ((hS.tr 3 rfl).1 0 (0, 5) rfl) (show G 3 0 13 = some (3, 14) from (hS.tr 3 rfl).2 13 (by decide) (by decide)) ?_
          refine V_ild6 dX6_shareOf_79 ?_
          refine V_ia dX6_shareOf_81 ((hS.tr 3 rfl).1 14 (1, 8) rfl) (by omega) (by decide) ?_
          refine V_eqI (by rw [hN3] : _ = T 14 q) ?_
          refine V_ifle (tgt := 88) dX6_shareOf_82 (by decide) (fun c82 => ?_) (fun c82 => ?_)
          · skip
            refine V_incN6 dX6_shareOf_88 rfl ?_
            refine V_goto (tgt := 35) dX6_shareOf_91 (by decide) ?_
            have hnq := hnq (by omega)
            rw [cShO, cShA, if_neg (fun h => absurd c82 (Int32.not_le.mpr h.2))] at hnq
            exact hnq
          · skip
            refine V_incN5 dX6_shareOf_85 rfl ?_
            refine V_incN6 dX6_shareOf_88 rfl ?_
            refine V_goto (tgt := 35) dX6_shareOf_91 (by decide) ?_
            have hnq := hnq (by omega)
            rw [cShO, cShA, if_pos ⟨by omega, Int32.not_le.mp c82⟩] at hnq
            exact hnq
    · skip
      refine V_iconst (v := 0) dX6_shareOf_24 (by decide) ?_
      refine V_ireturn dX6_shareOf_25 ⟨_, rfl, vp_nar_int _⟩ ?_
      rw [cSh, if_neg c9, if_pos c21] at hQ
      exact hQ
theorem kX6_share (hS : xSt Y G) (hN3 : N 3 = T) {mb pn : Nat} (hc : cSt T mb pn) {a z v : Int32} (hv : ∀ p, a = nI p → p < pn → tOK mb pn T → cSh T pn p z = v) (hQ : Q (some (xI (if rIn a (nI 0) (nI pn - nI 1) ∧ rIn z (nI 0) (nI 999) then v else -1000001))) Y G N) : V RX6 false cX6_share 3 (some .int) none (d + 2) b 0 [some (xR 0 0), some (xI a), some (xI z)] [] Y G N Q := by
  refine V_ald0 dX6_share_0 ?_
  refine V_ild1 dX6_share_1 ?_
  refine V_iv1 dX6_share_2 wlX6_160 mdX6_noPiece miX6_noPiece rfl (hS.r0.1 0 (0, 6) rfl) rfl rfl (kX6_noPiece hS hN3 hc ⟨rfl, ?_⟩)
  refine V_ifneB (tgt := 19) dX6_share_5 (by decide) (fun c5 => ?_) (fun c5 => ?_)
  · skip
    refine V_ldc dX6_share_19 wkX6_69 ?_
    refine V_ireturn dX6_share_21 ⟨_, rfl, vp_nar_int _⟩ ?_
    rw [if_neg (fun h => c5 h.1)] at hQ
    exact hQ
  · replace c5 := Classical.not_not.mp c5
    refine V_ild2 dX6_share_8 ?_
    refine V_iconst (v := nI 0) dX6_share_9 (by decide) ?_
    refine V_sipush (v := nI 999) dX6_share_10 (by decide) ?_
    refine V_is3 dX6_share_13 wlX6_217 mdX6_outside msX6_outside rfl rfl (kX6_outside ⟨rfl, ?_⟩)
    refine V_ifeqB (tgt := 22) dX6_share_16 (by decide) (fun c16 => ?_) (fun c16 => ?_)
    · replace c16 := Classical.not_not.mp c16
      obtain ⟨p, hp, rfl⟩ := rIn_m c5 (by have := hc.b6; omega)
      have hk := hc.okp hp
      refine V_ald0 dX6_share_22 ?_
      refine V_ild1 dX6_share_23 ?_
      refine V_ild2 dX6_share_24 ?_
      refine V_iv2 dX6_share_25 wlX6_260 mdX6_shareOf miX6_shareOf rfl (hS.r0.1 0 (0, 6) rfl) rfl rfl (kX6_shareOf hS hN3 hk hp ⟨rfl, ?_⟩)
      refine V_ireturn dX6_share_28 ⟨_, rfl, vp_nar_int _⟩ ?_
      rw [if_pos ⟨c5, c16⟩, ← hv p rfl hp hk] at hQ
      exact hQ
    · skip
      refine V_ldc dX6_share_19 wkX6_69 ?_
      refine V_ireturn dX6_share_21 ⟨_, rfl, vp_nar_int _⟩ ?_
      rw [if_neg (fun h => c16 h.2)] at hQ
      exact hQ
theorem kX6_commonDivisor {a e g : Nat} (ha : a < 2 ^ 30) (he : e < 2 ^ 30) (hg : Nat.gcd a e = g) (hQ : Q (some (xJ (lN g))) Y G N) : V RX6 false cX6_commonDivisor 11 (some .long) none d b 0 [some (xJ (lN a)), none, some (xJ (lN e)), none, none, none, none, none, none, none, none] [] Y G N Q := by
  have hae : a * e < 2 ^ 60 := by
    have := Nat.mul_lt_mul_of_lt_of_le ha (Nat.le_of_lt he) (by decide)
    exact this
  refine V_lld0 dX6_commonDivisor_0 ?_
  refine V_lst4 dX6_commonDivisor_1 rfl ?_
  refine V_lld2 dX6_commonDivisor_3 ?_
  refine V_lst6 dX6_commonDivisor_4 rfl ?_
  refine V_iconst (v := nI 0) dX6_commonDivisor_6 (by decide) ?_
  refine V_ist8 dX6_commonDivisor_7 rfl ?_
  refine xDown (P := fun i => ∀ x y l9, x < 2 ^ 62 → y < 2 ^ 62 → Nat.gcd x y = g → ((x * y < 2 ^ (100 - i) ∧ y ≤ x) ∨ (i = 0 ∧ x * y < 2 ^ 60)) → V RX6 false cX6_commonDivisor 11 (some .long) none d b 9 [some (xJ (lN a)), none, some (xJ (lN e)), none, some (xJ (lN x)), none, some (xJ (lN y)), none, some (xI (nI i)), l9, none] [] Y G N Q) 100 ?_ 0 (Nat.zero_le _) a e none (by omega) (by omega) hg (Or.inr ⟨rfl, hae⟩) 
  intro i hii hni x y l9 hx hy hg hin
  refine V_ild8 dX6_commonDivisor_9 ?_
  refine V_bipush (v := nI 100) dX6_commonDivisor_11 (by decide) ?_
  refine V_icmpgeN (tgt := 44) dX6_commonDivisor_13 (by decide) (by omega) (by omega) (fun c13 => ?_) (fun c13 => ?_)
  · have c20 : y = 0 := by
      rcases hin with ⟨h1, h2⟩ | ⟨h1, h2⟩
      · rw [show 100 - i = 0 by omega] at h1
        rcases Nat.eq_zero_or_pos y with q | q
        · exact q
        · have : 1 * 1 ≤ x * y := Nat.mul_le_mul (by omega) q
          omega
      · omega
    refine V_lld4 dX6_commonDivisor_44 ?_
    refine V_lreturn dX6_commonDivisor_46 rfl ?_
    rw [c20, Nat.gcd_zero_right] at hg
    rw [hg]
    exact hQ
  · skip
    refine V_lld6 dX6_commonDivisor_16 ?_
    refine V_lconst (v := lN 0) dX6_commonDivisor_18 (rfl) ?_
    refine V_lcmp dX6_commonDivisor_19 ?_
    refine V_ifeq (tgt := 44) dX6_commonDivisor_20 (by decide) (fun c20 => ?_) (fun c20 => ?_)
    · replace c20 : y = 0 := (pk_lEQ (by omega) (by decide)).mp ((lg_cmp_eq _ _).mp c20)
      refine V_lld4 dX6_commonDivisor_44 ?_
      refine V_lreturn dX6_commonDivisor_46 rfl ?_
      rw [c20, Nat.gcd_zero_right] at hg
      rw [hg]
      exact hQ
    · replace c20 : ¬ y = 0 := fun e => c20 ((lg_cmp_eq _ _).mpr (by rw [e]))
      refine V_lld4 dX6_commonDivisor_23 ?_
      refine V_lld6 dX6_commonDivisor_25 ?_
      refine V_lrem dX6_commonDivisor_27 (fun e => c20 ((pk_lEQ (by omega) (by decide)).mp (show lN y = lN 0 from e))) ?_
      rw [pk_lRem (by omega) (by omega) (by omega)]
      refine V_lst9 dX6_commonDivisor_28 rfl ?_
      refine V_lld6 dX6_commonDivisor_30 ?_
      refine V_lst4 dX6_commonDivisor_32 rfl ?_
      refine V_lld9 dX6_commonDivisor_34 ?_
      refine V_lst6 dX6_commonDivisor_36 rfl ?_
      refine V_incN8 dX6_commonDivisor_38 rfl ?_
      refine V_goto (tgt := 9) dX6_commonDivisor_41 (by decide) ?_
      have hyn := Nat.mod_lt x (show 0 < y by omega)
      refine hni (by omega) _ _ _ hy (by omega) (by rw [← hg, xGcd c20]) ?_
      rcases hin with ⟨h1, h2⟩ | ⟨h1, h2⟩
      · refine Or.inl ⟨gcd_half c20 h2 (by rw [show 100 - (i + 1) + 1 = 100 - i by omega]; exact h1), by omega⟩
      · refine Or.inl ⟨?_, by omega⟩
        have q1 : y * (x % y) ≤ y * x := Nat.mul_le_mul_left _ (Nat.mod_le _ _)
        rw [Nat.mul_comm y x] at q1
        have q2 : (2 : Nat) ^ 60 ≤ 2 ^ (100 - (i + 1)) := Nat.pow_le_pow_right (by decide) (by omega)
        omega
end K6
