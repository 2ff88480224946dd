section KM
variable {d : Nat} {b : Nat × Nat} {Y : xY} {G : xG} {N : xM} {S : xT} {f : Nat → Int32} {Q : Option xAV → xY → xG → xM → Prop} {c : Nat}
theorem kX7_row (hM : xMo Y G) {a l z : Int32} (hB : ¬ (rIn a (nI 0) (nI 7) ∧ rIn l (nI 0) (nI 2) ∧ ¬ nI 40 < z) → Q (some (xI (-1000001))) Y G (va_up N 40 S)) (h4 : rIn a (nI 0) (nI 7) ∧ rIn l (nI 0) (nI 2) ∧ ¬ nI 40 < z → z < 0 → Q (some (xI (-1000010 - nI 4))) Y G (va_up N 40 (rFound S (nI 4)))) (hO : ∀ r k, rIn a (nI 0) (nI 7) ∧ rIn l (nI 0) (nI 2) ∧ ¬ nI 40 < z → a = nI r → r < 8 → z = nI k → k ≤ 40 → ∀ S2, S2 0 = upd (S 0) 3 0 → S2 1 = upd (S 1) r l → S2 2 = upd (S 2) r (nI k) → (∀ j, j < k → S2 3 (40 * r + j) = nI 0) → (∀ q, q < 40 * r ∨ 40 * r + 40 ≤ q → S2 3 q = S 3 q) → (∀ c, c ≠ 0 → c ≠ 1 → c ≠ 2 → c ≠ 3 → S2 c = S c) → Q (some (xI (nI k))) Y G (va_up N 40 S2)) : V RX7 false cX7_row 5 (some .int) none (d + 2) b 0 [some (xR 40 0), some (xI a), some (xI l), some (xI z), none] [] Y G (va_up N 40 S) Q := by
  refine V_ald0 dX7_row_0 ?_
  refine V_ild1 dX7_row_1 ?_
  refine V_iv1 dX7_row_2 wlX7_80 mdX7_isRow miX7_isRow rfl (hM.1 0 (0, 7) rfl) rfl rfl (kX7_isRow ⟨rfl, ?_⟩)
  refine V_ifeqB (tgt := 23) dX7_row_5 (by decide) (fun c5 => ?_) (fun c5 => ?_)
  · skip
    refine V_ldc dX7_row_23 wkX7_84 ?_
    refine V_ireturn dX7_row_25 ⟨_, rfl, vp_nar_int _⟩ ?_
    exact hB (fun h => c5 h.1)
  · skip
    refine V_ild2 dX7_row_8 ?_
    refine V_iconst (v := nI 0) dX7_row_9 (by decide) ?_
    refine V_iconst (v := nI 2) dX7_row_10 (by decide) ?_
    refine V_is3 dX7_row_11 wlX7_70 mdX7_in msX7_in rfl rfl (kX7_in ⟨rfl, ?_⟩)
    refine V_ifeqB (tgt := 23) dX7_row_14 (by decide) (fun c14 => ?_) (fun c14 => ?_)
    · skip
      refine V_ldc dX7_row_23 wkX7_84 ?_
      refine V_ireturn dX7_row_25 ⟨_, rfl, vp_nar_int _⟩ ?_
      exact hB (fun h => c14 h.2.1)
    · skip
      refine V_ild3 dX7_row_17 ?_
      refine V_bipush (v := nI 40) dX7_row_18 (by decide) ?_
      refine V_icmple (tgt := 26) dX7_row_20 (by decide) (fun c20 => ?_) (fun c20 => ?_)
      · skip
        refine V_ild3 dX7_row_26 ?_
        refine V_ifge (tgt := 36) dX7_row_27 (by decide) (fun c27 => ?_) (fun c27 => ?_)
        · skip
          obtain ⟨r, hr0, hr7, rfl⟩ := rIn_k c5 (by decide) (by decide)
          obtain ⟨k, hk0, hk1, rfl⟩ := rIn_k (lo := 0) (hi := 40) (show rIn z (nI 0) (nI 40) from ⟨Int32.not_lt.mpr c27, Int32.not_lt.mpr c20⟩) (by decide) (by decide)
          refine V_ald0 dX7_row_36 ?_
          refine V_iconst (v := 0) dX7_row_37 (by decide) ?_
          refine V_putIr dX7_row_38 fwX7_65 (hM.1 0 (0, 7) rfl) ?_
          refine V_ald0 dX7_row_41 ?_
          refine V_getR dX7_row_42 flX7_7 (hM.1 0 (0, 7) rfl) (show G 40 0 0 = some (40, 1) from hM.2 0 (1, 8) rfl) ?_
          refine V_ild1 dX7_row_45 ?_
          refine V_ild2 dX7_row_46 ?_
          refine V_iasr dX7_row_47 (hM.1 1 (1, 8) rfl) (by omega) (by decide) ?_
          refine V_ald0 dX7_row_48 ?_
          refine V_getR dX7_row_49 flX7_13 (hM.1 0 (0, 7) rfl) (show G 40 0 1 = some (40, 2) from hM.2 1 (1, 8) rfl) ?_
          refine V_ild1 dX7_row_52 ?_
          refine V_ild3 dX7_row_53 ?_
          refine V_iasr dX7_row_54 (hM.1 2 (1, 8) rfl) (by omega) (by decide) ?_
          refine V_iconst (v := nI 0) dX7_row_55 (by decide) ?_
          refine V_ist4 dX7_row_56 rfl ?_
          refine xDown (P := fun i => ∀ S2, S2 0 = upd (S 0) 3 0 → S2 1 = upd (S 1) r l → S2 2 = upd (S 2) r (nI k) → (∀ j, j < i → S2 3 (40 * r + j) = nI 0) → (∀ q, q < 40 * r ∨ 40 * r + 40 ≤ q → S2 3 q = S 3 q) → (∀ c, c ≠ 0 → c ≠ 1 → c ≠ 2 → c ≠ 3 → S2 c = S c) → V RX7 false cX7_row 5 (some .int) none (d + 2) b 58 [some (xR 40 0), some (xI (nI r)), some (xI l), some (xI (nI k)), some (xI (nI i))] [] Y G (va_up N 40 S2) Q) k ?_ 0 (Nat.zero_le _) _ rfl rfl rfl (fun j hj => absurd hj (by omega)) (fun _ _ => rfl) (fun c h0 h1 h2 h3 => by rw [va_up_no _ _ h2, va_up_no _ _ h1, va_up_no _ _ h0]) 
          intro i hii hni S2 e0 e1 e2 e3 e4 ec
          refine V_ild4 dX7_row_58 ?_
          refine V_ild3 dX7_row_60 ?_
          refine V_icmpgeN (tgt := 83) dX7_row_61 (by decide) (by omega) (by omega) (fun c61 => ?_) (fun c61 => ?_)
          · skip
            refine V_ild3 dX7_row_83 ?_
            refine V_ireturn dX7_row_84 ⟨_, rfl, vp_nar_int _⟩ ?_
            exact hO r k ⟨c5, c14, Int32.not_lt.mpr c20⟩ rfl (by omega) rfl (by omega) S2 e0 e1 e2 (fun j hj => e3 j (by omega)) e4 ec
          · skip
            refine V_ald0 dX7_row_64 ?_
            refine V_getR dX7_row_65 flX7_16 (hM.1 0 (0, 7) rfl) (show G 40 0 2 = some (40, 3) from hM.2 2 (1, 320) rfl) ?_
            refine V_bipush (v := nI 40) dX7_row_68 (by decide) ?_
            refine V_ild1 dX7_row_70 ?_
            refine V_imulN dX7_row_71 ?_
            refine V_ild4 dX7_row_72 ?_
            refine V_iaddN dX7_row_74 ?_
            refine V_iconst (v := nI 0) dX7_row_75 (by decide) ?_
            refine V_iasr dX7_row_76 (hM.1 3 (1, 320) rfl) (by omega) (by decide) ?_
            refine V_incN4 dX7_row_77 rfl ?_
            refine V_goto (tgt := 58) dX7_row_80 (by decide) ?_
            exact hni (by omega) _ (by rw [va_up_no _ _ (by decide)]; exact e0) (by rw [va_up_no _ _ (by decide)]; exact e1) (by rw [va_up_no _ _ (by decide)]; exact e2) (fun j hj => by
              rw [va_up_eq]
              by_cases e : j = i
              · rw [e, upd_eq]
              · rw [upd_no _ _ (by omega)]; exact e3 j (by omega)) (fun q hq => by rw [va_up_eq, upd_no _ _ (by omega)]; exact e4 q hq) (fun c h0 h1 h2 h3 => by rw [va_up_no _ _ h3]; exact ec c h0 h1 h2 h3)
        · skip
          refine V_ald0 dX7_row_30 ?_
          refine V_iconst (v := nI 4) dX7_row_31 (by decide) ?_
          refine V_iv1 dX7_row_32 wlX7_85 mdX7_finds miX7_finds rfl (hM.1 0 (0, 7) rfl) rfl rfl (kX7_finds hM ⟨rfl, ?_⟩)
          refine V_ireturn dX7_row_35 ⟨_, rfl, vp_nar_int _⟩ ?_
          exact h4 ⟨c5, c14, Int32.not_lt.mpr c20⟩ (Int32.not_le.mp c27)
      · skip
        refine V_ldc dX7_row_23 wkX7_84 ?_
        refine V_ireturn dX7_row_25 ⟨_, rfl, vp_nar_int _⟩ ?_
        exact hB (fun h => h.2.2 (Int32.not_le.mp c20))
theorem kX7_set (hM : xMo Y G) (hsz : szOK (S 2)) {a x v : Int32} (hB : ¬ rIn a (nI 0) (nI 7) → Q (some (xI (-1000001))) Y G (va_up N 40 S)) (h1 : ∀ r, a = nI r → r < 8 → S 2 r < 0 → Q (some (xI (-1000010 - nI 1))) Y G (va_up N 40 (rFound S (nI 1)))) (h2 : ∀ r, a = nI r → r < 8 → ¬ S 2 r < 0 → ¬ rIn x (nI 0) (S 2 r - nI 1) → Q (some (xI (-1000010 - nI 2))) Y G (va_up N 40 (rFound S (nI 2)))) (hO : ∀ r j len, a = nI r → r < 8 → x = nI j → j < len → len ≤ 40 → S 2 r = nI len → ∀ S2, S2 0 = upd (S 0) 3 0 → S2 3 = upd (S 3) (40 * r + j) (rCut (S 1 r) v) → (∀ c, c ≠ 0 → c ≠ 3 → S2 c = S c) → Q (some (xI (rCut (S 1 r) v))) Y G (va_up N 40 S2)) : V RX7 false cX7_set 4 (some .int) none (d + 2) b 0 [some (xR 40 0), some (xI a), some (xI x), some (xI v)] [] Y G (va_up N 40 S) Q := by
  refine V_ald0 dX7_set_0 ?_
  refine V_ild1 dX7_set_1 ?_
  refine V_iv1 dX7_set_2 wlX7_80 mdX7_isRow miX7_isRow rfl (hM.1 0 (0, 7) rfl) rfl rfl (kX7_isRow ⟨rfl, ?_⟩)
  refine V_ifneB (tgt := 11) dX7_set_5 (by decide) (fun c5 => ?_) (fun c5 => ?_)
  · skip
    obtain ⟨r, hr0, hr7, rfl⟩ := rIn_k c5 (by decide) (by decide)
    refine V_ald0 dX7_set_11 ?_
    refine V_getR dX7_set_12 flX7_13 (hM.1 0 (0, 7) rfl) (show G 40 0 1 = some (40, 2) from hM.2 1 (1, 8) rfl) ?_
    refine V_ild1 dX7_set_15 ?_
    refine V_iar dX7_set_16 (hM.1 2 (1, 8) rfl) (by omega) (by decide) ?_
    refine V_ifge (tgt := 26) dX7_set_17 (by decide) (fun c17 => ?_) (fun c17 => ?_)
    · skip
      obtain ⟨len, hle, hsr⟩ : ∃ k, k ≤ 40 ∧ S 2 r = nI k := (hsz r (by omega)).elim (fun e => absurd c17 (by rw [e]; decide)) id
      refine V_ild2 dX7_set_26 ?_
      refine V_iconst (v := nI 0) dX7_set_27 (by decide) ?_
      refine V_ald0 dX7_set_28 ?_
      refine V_getR dX7_set_29 flX7_13 (hM.1 0 (0, 7) rfl) (show G 40 0 1 = some (40, 2) from hM.2 1 (1, 8) rfl) ?_
      refine V_ild1 dX7_set_32 ?_
      refine V_iar dX7_set_33 (hM.1 2 (1, 8) rfl) (by omega) (by decide) ?_
      refine V_eqI hsr ?_
      refine V_iconst (v := nI 1) dX7_set_34 (by decide) ?_
      refine V_isub dX7_set_35 ?_
      refine V_is3 dX7_set_36 wlX7_70 mdX7_in msX7_in rfl rfl (kX7_in ⟨rfl, ?_⟩)
      refine V_ifneB (tgt := 48) dX7_set_39 (by decide) (fun c39 => ?_) (fun c39 => ?_)
      · skip
        obtain ⟨j, hj, rfl⟩ := rIn_m c39 (by omega)
        refine V_ald0 dX7_set_48 ?_
        refine V_iconst (v := 0) dX7_set_49 (by decide) ?_
        refine V_putIr dX7_set_50 fwX7_65 (hM.1 0 (0, 7) rfl) ?_
        refine V_ald0 dX7_set_53 ?_
        refine V_getR dX7_set_54 flX7_16 (hM.1 0 (0, 7) rfl) (show G 40 0 2 = some (40, 3) from hM.2 2 (1, 320) rfl) ?_
        refine V_bipush (v := nI 40) dX7_set_57 (by decide) ?_
        refine V_ild1 dX7_set_59 ?_
        refine V_imulN dX7_set_60 ?_
        refine V_ild2 dX7_set_61 ?_
        refine V_iaddN dX7_set_62 ?_
        refine V_ald0 dX7_set_63 ?_
        refine V_getR dX7_set_64 flX7_7 (hM.1 0 (0, 7) rfl) (show G 40 0 0 = some (40, 1) from hM.2 0 (1, 8) rfl) ?_
        refine V_ild1 dX7_set_67 ?_
        refine V_iar dX7_set_68 (hM.1 1 (1, 8) rfl) (by omega) (by decide) ?_
        refine V_ild3 dX7_set_69 ?_
        refine V_is2 dX7_set_70 wlX7_89 mdX7_cut msX7_cut rfl rfl (kX7_cut ⟨rfl, ?_⟩)
        refine V_iasr dX7_set_73 (hM.1 3 (1, 320) rfl) (by omega) (by decide) ?_
        refine V_ald0 dX7_set_74 ?_
        refine V_getR dX7_set_75 flX7_16 (hM.1 0 (0, 7) rfl) (show G 40 0 2 = some (40, 3) from hM.2 2 (1, 320) rfl) ?_
        refine V_bipush (v := nI 40) dX7_set_78 (by decide) ?_
        refine V_ild1 dX7_set_80 ?_
        refine V_imulN dX7_set_81 ?_
        refine V_ild2 dX7_set_82 ?_
        refine V_iaddN dX7_set_83 ?_
        refine V_iar dX7_set_84 (hM.1 3 (1, 320) rfl) (by omega) (by decide) ?_
        refine V_ireturn dX7_set_85 ⟨_, rfl, vp_nar_int _⟩ ?_
        rw [va_up_eq, upd_eq]
        exact hO r j len rfl (by omega) rfl hj hle hsr _ rfl rfl (fun c h0 h3 => by rw [va_up_no _ _ h3, va_up_no _ _ h0])
      · skip
        refine V_ald0 dX7_set_42 ?_
        refine V_iconst (v := nI 2) dX7_set_43 (by decide) ?_
        refine V_iv1 dX7_set_44 wlX7_85 mdX7_finds miX7_finds rfl (hM.1 0 (0, 7) rfl) rfl rfl (kX7_finds hM ⟨rfl, ?_⟩)
        refine V_ireturn dX7_set_47 ⟨_, rfl, vp_nar_int _⟩ ?_
        exact h2 r rfl (by omega) (Int32.not_lt.mpr c17) (by rw [hsr]; exact c39)
    · skip
      refine V_ald0 dX7_set_20 ?_
      refine V_iconst (v := nI 1) dX7_set_21 (by decide) ?_
      refine V_iv1 dX7_set_22 wlX7_85 mdX7_finds miX7_finds rfl (hM.1 0 (0, 7) rfl) rfl rfl (kX7_finds hM ⟨rfl, ?_⟩)
      refine V_ireturn dX7_set_25 ⟨_, rfl, vp_nar_int _⟩ ?_
      exact h1 r rfl (by omega) (Int32.not_le.mp c17)
  · skip
    refine V_ldc dX7_set_8 wkX7_84 ?_
    refine V_ireturn dX7_set_10 ⟨_, rfl, vp_nar_int _⟩ ?_
    exact hB c5
theorem kX7_drop (hM : xMo Y G) {a : Int32} (hB : ¬ rIn a (nI 0) (nI 7) → Q (some (xI (-1000001))) Y G (va_up N 40 S)) (h1 : ∀ r, a = nI r → r < 8 → S 2 r < 0 → Q (some (xI (-1000010 - nI 1))) Y G (va_up N 40 (rFound S (nI 1)))) (hO : ∀ r, a = nI r → r < 8 → ¬ S 2 r < 0 → ∀ S2, S2 0 = upd (S 0) 3 0 → S2 2 = upd (S 2) r (-1) → (∀ c, c ≠ 0 → c ≠ 2 → S2 c = S c) → Q (some (xI (S 2 r))) Y G (va_up N 40 S2)) : V RX7 false cX7_drop 3 (some .int) none (d + 2) b 0 [some (xR 40 0), some (xI a), none] [] Y G (va_up N 40 S) Q := by
  refine V_ald0 dX7_drop_0 ?_
  refine V_ild1 dX7_drop_1 ?_
  refine V_iv1 dX7_drop_2 wlX7_80 mdX7_isRow miX7_isRow rfl (hM.1 0 (0, 7) rfl) rfl rfl (kX7_isRow ⟨rfl, ?_⟩)
  refine V_ifneB (tgt := 11) dX7_drop_5 (by decide) (fun c5 => ?_) (fun c5 => ?_)
  · skip
    obtain ⟨r, hr0, hr7, rfl⟩ := rIn_k c5 (by decide) (by decide)
    refine V_ald0 dX7_drop_11 ?_
    refine V_getR dX7_drop_12 flX7_13 (hM.1 0 (0, 7) rfl) (show G 40 0 1 = some (40, 2) from hM.2 1 (1, 8) rfl) ?_
    refine V_ild1 dX7_drop_15 ?_
    refine V_iar dX7_drop_16 (hM.1 2 (1, 8) rfl) (by omega) (by decide) ?_
    refine V_ifge (tgt := 26) dX7_drop_17 (by decide) (fun c17 => ?_) (fun c17 => ?_)
    · skip
      refine V_ald0 dX7_drop_26 ?_
      refine V_iconst (v := 0) dX7_drop_27 (by decide) ?_
      refine V_putIr dX7_drop_28 fwX7_65 (hM.1 0 (0, 7) rfl) ?_
      refine V_ald0 dX7_drop_31 ?_
      refine V_getR dX7_drop_32 flX7_13 (hM.1 0 (0, 7) rfl) (show G 40 0 1 = some (40, 2) from hM.2 1 (1, 8) rfl) ?_
      refine V_ild1 dX7_drop_35 ?_
      refine V_iar dX7_drop_36 (hM.1 2 (1, 8) rfl) (by omega) (by decide) ?_
      refine V_ist2 dX7_drop_37 rfl ?_
      refine V_ald0 dX7_drop_38 ?_
      refine V_getR dX7_drop_39 flX7_13 (hM.1 0 (0, 7) rfl) (show G 40 0 1 = some (40, 2) from hM.2 1 (1, 8) rfl) ?_
      refine V_ild1 dX7_drop_42 ?_
      refine V_iconst (v := (-1)) dX7_drop_43 (by decide) ?_
      refine V_iasr dX7_drop_44 (hM.1 2 (1, 8) rfl) (by omega) (by decide) ?_
      refine V_ild2 dX7_drop_45 ?_
      refine V_ireturn dX7_drop_46 ⟨_, rfl, vp_nar_int _⟩ ?_
      exact hO r rfl (by omega) (Int32.not_lt.mpr c17) _ rfl rfl (fun c h0 h2 => by rw [va_up_no _ _ h2, va_up_no _ _ h0])
    · skip
      refine V_ald0 dX7_drop_20 ?_
      refine V_iconst (v := nI 1) dX7_drop_21 (by decide) ?_
      refine V_iv1 dX7_drop_22 wlX7_85 mdX7_finds miX7_finds rfl (hM.1 0 (0, 7) rfl) rfl rfl (kX7_finds hM ⟨rfl, ?_⟩)
      refine V_ireturn dX7_drop_25 ⟨_, rfl, vp_nar_int _⟩ ?_
      exact h1 r rfl (by omega) (Int32.not_le.mp c17)
  · skip
    refine V_ldc dX7_drop_8 wkX7_84 ?_
    refine V_ireturn dX7_drop_10 ⟨_, rfl, vp_nar_int _⟩ ?_
    exact hB c5
theorem kX7_feed (hM : xMo Y G) {tn : Nat} (htn : S 0 5 = nI tn) (ht : tn ≤ 110) {a : Int32} (hB : ¬ rIn a (nI 0) (nI 255) → Q (some (xI (-1000001))) Y G (va_up N 40 S)) (hF : rIn a (nI 0) (nI 255) → tn = 110 → Q (some (xI (-1000003))) Y G (va_up N 40 S)) (hO : rIn a (nI 0) (nI 255) → tn < 110 → ∀ S2, S2 0 = upd (S 0) 5 (nI (tn + 1)) → S2 5 = upd (S 5) tn a → (∀ c, c ≠ 0 → c ≠ 5 → S2 c = S c) → Q (some (xI (nI (tn + 1)))) Y G (va_up N 40 S2)) : V RX7 false cX7_feed 2 (some .int) none (d + 1) b 0 [some (xR 40 0), some (xI a)] [] Y G (va_up N 40 S) Q := by
  refine V_ild1 dX7_feed_0 ?_
  refine V_iconst (v := nI 0) dX7_feed_1 (by decide) ?_
  refine V_sipush (v := nI 255) dX7_feed_2 (by decide) ?_
  refine V_is3 dX7_feed_5 wlX7_70 mdX7_in msX7_in rfl rfl (kX7_in ⟨rfl, ?_⟩)
  refine V_ifneB (tgt := 14) dX7_feed_8 (by decide) (fun c8 => ?_) (fun c8 => ?_)
  · skip
    refine V_ald0 dX7_feed_14 ?_
    refine V_getIr dX7_feed_15 flX7_96 (hM.1 0 (0, 7) rfl) ?_
    refine V_eqI htn ?_
    refine V_bipush (v := nI 110) dX7_feed_18 (by decide) ?_
    refine V_icmpneN (tgt := 26) dX7_feed_20 (by decide) (by omega) (by omega) (fun c20 => ?_) (fun c20 => ?_)
    · skip
      refine V_ald0 dX7_feed_26 ?_
      refine V_getR dX7_feed_27 flX7_19 (hM.1 0 (0, 7) rfl) (show G 40 0 4 = some (40, 5) from hM.2 4 (1, 110) rfl) ?_
      refine V_ald0 dX7_feed_30 ?_
      refine V_getIr dX7_feed_31 flX7_96 (hM.1 0 (0, 7) rfl) ?_
      refine V_eqI htn ?_
      refine V_ild1 dX7_feed_34 ?_
      refine V_iasr dX7_feed_35 (hM.1 5 (1, 110) rfl) (by omega) (by decide) ?_
      refine V_ald0 dX7_feed_36 ?_
      refine V_dupR dX7_feed_37 ?_
      refine V_getIr dX7_feed_38 flX7_96 (hM.1 0 (0, 7) rfl) ?_
      refine V_eqI (show _ = nI tn from htn) ?_
      refine V_iconst (v := nI 1) dX7_feed_41 (by decide) ?_
      refine V_iaddN dX7_feed_42 ?_
      refine V_putIr dX7_feed_43 fwX7_96 (hM.1 0 (0, 7) rfl) ?_
      refine V_ald0 dX7_feed_46 ?_
      refine V_getIr dX7_feed_47 flX7_96 (hM.1 0 (0, 7) rfl) ?_
      refine V_ireturn dX7_feed_50 ⟨_, rfl, vp_nar_int _⟩ ?_
      exact hO c8 (by omega) _ rfl rfl (fun c h0 h5 => by rw [va_up_no _ _ h0, va_up_no _ _ h5])
    · skip
      refine V_ldc dX7_feed_23 wkX7_99 ?_
      refine V_ireturn dX7_feed_25 ⟨_, rfl, vp_nar_int _⟩ ?_
      exact hF c8 (by omega)
  · skip
    refine V_ldc dX7_feed_11 wkX7_84 ?_
    refine V_ireturn dX7_feed_13 ⟨_, rfl, vp_nar_int _⟩ ?_
    exact hB c8
end KM
