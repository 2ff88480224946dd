theorem rKeep.e {S S2 : xT} (h : rKeep S S2) {k : Nat} (hk : 21 ≤ k) (v : Int32) : rKeep S (rE S2 k v) := ⟨fun c a1 a2 a3 a4 a5 a6 a7 a8 => by unfold rE; rw [va_up_no _ _ a1]; exact h.1 c a1 a2 a3 a4 a5 a6 a7 a8, fun q hq => by unfold rE; rw [va_up_eq, upd_no _ _ (by omega)]; exact h.2 q hq⟩
theorem rKeep.u {S S2 : xT} (h : rKeep S S2) {c : Nat} (hc : c = 28 ∨ c = 29) (f : Nat → Int32) : rKeep S (va_up S2 c f) := h.tr (rKeep.up (by omega) f)
section KM
variable {d : Nat} {b : Nat × Nat} {Y : xY} {G : xG} {N : xM} {S : xT} {f : Nat → Int32} {Q : Option xAV → xY → xG → xM → Prop} {c : Nat}
theorem kX7_readMarble (hM : xMo Y G) {n : Nat} (hn : S 0 5 = nI n) (hn2 : n ≤ 110) {a : Nat} (ha : S 0 21 = nI a) (ha2 : a ≤ n) (hw : S 0 23 = 0) {i : Nat} (hi : S 0 25 = nI i) (hi6 : i ≤ 6) (h3 : i = 6 → Q none Y G (va_up N 40 (rE (rE S 23 (nI 3)) 22 (nI a)))) (h0 : i < 6 → ∀ f pl S2, pMar (S 5) n a = .inl (f, pl) → S2 0 23 = nI f → ¬ nI f = 0 → S2 0 22 = nI pl → rKeep S S2 → Q none Y G (va_up N 40 S2)) (h1 : i < 6 → ∀ w s a2 S2, pMar (S 5) n a = .inr (w, s, a2) → S2 0 21 = nI a2 → a2 ≤ n → S2 0 23 = 0 → S2 0 25 = nI (i + 1) → S2 0 24 = S 0 24 → S2 0 26 = S 0 26 → S2 29 = upd (upd (upd (S 29) (55 + i) w) (61 + i) s) (49 + i) (nI 10) → S2 28 = S 28 → rKeep S S2 → Q none Y G (va_up N 40 S2)) : V RX7 false cX7_readMarble 1 none none (d + 3) b 0 [some (xR 40 0)] [] Y G (va_up N 40 S) Q := by
  refine V_ald0 dX7_readMarble_0 ?_
  refine V_getIr dX7_readMarble_1 flX7_120 (hM.1 0 (0, 7) rfl) ?_
  refine V_eqI hi ?_
  refine V_bipush (v := nI 6) dX7_readMarble_4 (by decide) ?_
  refine V_icmpneN (tgt := 15) dX7_readMarble_6 (by decide) (by omega) (by omega) (fun c6 => ?_) (fun c6 => ?_)
  · skip
    refine V_ald0 dX7_readMarble_15 ?_
    refine V_bipush (v := nI 109) dX7_readMarble_16 (by decide) ?_
    refine V_iv1 dX7_readMarble_18 wlX7_123 mdX7_sign miX7_sign rfl (hM.1 0 (0, 7) rfl) rfl rfl (kX7_signO (n := n) (a := a) hM (by exact hn) hn2 (by first | exact ha | rfl) (by omega) (by exact hw) (fun e18 => ⟨rfl, ?_⟩) (fun ne18 => ⟨rfl, ?_⟩))
    · skip
      replace e18 : pBy (S 5) n a = _ := e18
      have l18 := pBy_lt (by decide) e18
      refine V_ald0 dX7_readMarble_21 ?_
      refine V_getR dX7_readMarble_22 flX7_50 (hM.1 0 (0, 7) rfl) (show G 40 0 28 = some (40, 29) from hM.2 28 (1, 67) rfl) ?_
      refine V_bipush (v := nI 55) dX7_readMarble_25 (by decide) ?_
      refine V_ald0 dX7_readMarble_27 ?_
      refine V_getIr dX7_readMarble_28 flX7_120 (hM.1 0 (0, 7) rfl) ?_
      refine V_eqI (show _ = nI i from hi) ?_
      refine V_iaddN dX7_readMarble_31 ?_
      refine V_ald0 dX7_readMarble_32 ?_
      refine V_iconst (v := nI 1) dX7_readMarble_33 (by decide) ?_
      refine V_bipush (v := nI 9) dX7_readMarble_34 (by decide) ?_
      refine V_iv2 dX7_readMarble_36 wlX7_126 mdX7_number miX7_number rfl (hM.1 0 (0, 7) rfl) rfl rfl (kX7_numberO (n := n) (a := (a + 1)) hM (by exact hn) hn2 (by first | exact ha | rfl) (by omega) (by exact hw) (fun f36 e36 q36 => ⟨rfl, ?_⟩) (fun v36 a36 e36 q36 r36 => ⟨rfl, ?_⟩))
      · skip
        have hwr : ¬ nI f36 = 0 := by rcases q36 with e | e <;> (rw [e]; decide)
        replace e36 : pNm (S 5) n _ _ (a + 1) = _ := e36
        refine V_iasr dX7_readMarble_39 (hM.1 29 (1, 67) rfl) (by omega) (by decide) ?_
        refine V_ald0 dX7_readMarble_40 ?_
        refine V_bipush (v := nI 44) dX7_readMarble_41 (by decide) ?_
        refine V_iv1 dX7_readMarble_43 wlX7_123 mdX7_sign miX7_sign rfl (hM.1 0 (0, 7) rfl) rfl rfl (kX7_signW hM (by exact hwr) ⟨rfl, ?_⟩)
        refine V_ald0 dX7_readMarble_46 ?_
        refine V_getR dX7_readMarble_47 flX7_50 (hM.1 0 (0, 7) rfl) (show G 40 0 28 = some (40, 29) from hM.2 28 (1, 67) rfl) ?_
        refine V_bipush (v := nI 61) dX7_readMarble_50 (by decide) ?_
        refine V_ald0 dX7_readMarble_52 ?_
        refine V_getIr dX7_readMarble_53 flX7_120 (hM.1 0 (0, 7) rfl) ?_
        refine V_eqI (show _ = nI i from hi) ?_
        refine V_iaddN dX7_readMarble_56 ?_
        refine V_ald0 dX7_readMarble_57 ?_
        refine V_iconst (v := nI 0) dX7_readMarble_58 (by decide) ?_
        refine V_bipush (v := nI 20) dX7_readMarble_59 (by decide) ?_
        refine V_iv2 dX7_readMarble_61 wlX7_126 mdX7_number miX7_number rfl (hM.1 0 (0, 7) rfl) rfl rfl (kX7_numberW (n := n) (a := (a + 1)) hM (by exact hn) hn2 (by first | exact ha | rfl) (by omega) (by exact hwr) ⟨rfl, ?_⟩)
        refine V_iasr dX7_readMarble_64 (hM.1 29 (1, 67) rfl) (by omega) (by decide) ?_
        refine V_ald0 dX7_readMarble_65 ?_
        refine V_bipush (v := nI 59) dX7_readMarble_66 (by decide) ?_
        refine V_iv1 dX7_readMarble_68 wlX7_123 mdX7_sign miX7_sign rfl (hM.1 0 (0, 7) rfl) rfl rfl (kX7_signW hM (by exact hwr) ⟨rfl, ?_⟩)
        refine V_ald0 dX7_readMarble_71 ?_
        refine V_getR dX7_readMarble_72 flX7_50 (hM.1 0 (0, 7) rfl) (show G 40 0 28 = some (40, 29) from hM.2 28 (1, 67) rfl) ?_
        refine V_bipush (v := nI 49) dX7_readMarble_75 (by decide) ?_
        refine V_ald0 dX7_readMarble_77 ?_
        refine V_getIr dX7_readMarble_78 flX7_120 (hM.1 0 (0, 7) rfl) ?_
        refine V_eqI (show _ = nI i from hi) ?_
        refine V_iaddN dX7_readMarble_81 ?_
        refine V_bipush (v := nI 10) dX7_readMarble_82 (by decide) ?_
        refine V_iasr dX7_readMarble_84 (hM.1 29 (1, 67) rfl) (by omega) (by decide) ?_
        refine V_ald0 dX7_readMarble_85 ?_
        refine V_dupR dX7_readMarble_86 ?_
        refine V_getIr dX7_readMarble_87 flX7_120 (hM.1 0 (0, 7) rfl) ?_
        refine V_eqI (show _ = nI i from hi) ?_
        refine V_iconst (v := nI 1) dX7_readMarble_90 (by decide) ?_
        refine V_iaddN dX7_readMarble_91 ?_
        refine V_putIr dX7_readMarble_92 fwX7_120 (hM.1 0 (0, 7) rfl) ?_
        refine V_return dX7_readMarble_95 rfl ?_
        exact h0 (by omega) f36 (a + 1) _ (by unfold pMar; rw [if_pos e18, e36]) rfl hwr rfl (by repeat (first | exact rKeep.rf _ | refine rKeep.e ?_ (by decide) _ | refine rKeep.u ?_ (by decide) _))
      · skip
        replace e36 : pNm (S 5) n _ _ (a + 1) = _ := e36
        refine V_iasr dX7_readMarble_39 (hM.1 29 (1, 67) rfl) (by omega) (by decide) ?_
        refine V_ald0 dX7_readMarble_40 ?_
        refine V_bipush (v := nI 44) dX7_readMarble_41 (by decide) ?_
        refine V_iv1 dX7_readMarble_43 wlX7_123 mdX7_sign miX7_sign rfl (hM.1 0 (0, 7) rfl) rfl rfl (kX7_signO (n := n) (a := a36) hM (by exact hn) hn2 (by first | exact ha | rfl) (by omega) (by exact hw) (fun e43 => ⟨rfl, ?_⟩) (fun ne43 => ⟨rfl, ?_⟩))
        · skip
          replace e43 : pBy (S 5) n a36 = _ := e43
          have l43 := pBy_lt (by decide) e43
          refine V_ald0 dX7_readMarble_46 ?_
          refine V_getR dX7_readMarble_47 flX7_50 (hM.1 0 (0, 7) rfl) (show G 40 0 28 = some (40, 29) from hM.2 28 (1, 67) rfl) ?_
          refine V_bipush (v := nI 61) dX7_readMarble_50 (by decide) ?_
          refine V_ald0 dX7_readMarble_52 ?_
          refine V_getIr dX7_readMarble_53 flX7_120 (hM.1 0 (0, 7) rfl) ?_
          refine V_eqI (show _ = nI i from hi) ?_
          refine V_iaddN dX7_readMarble_56 ?_
          refine V_ald0 dX7_readMarble_57 ?_
          refine V_iconst (v := nI 0) dX7_readMarble_58 (by decide) ?_
          refine V_bipush (v := nI 20) dX7_readMarble_59 (by decide) ?_
          refine V_iv2 dX7_readMarble_61 wlX7_126 mdX7_number miX7_number rfl (hM.1 0 (0, 7) rfl) rfl rfl (kX7_numberO (n := n) (a := (a36 + 1)) hM (by exact hn) hn2 (by first | exact ha | rfl) (by omega) (by exact hw) (fun f61 e61 q61 => ⟨rfl, ?_⟩) (fun v61 a61 e61 q61 r61 => ⟨rfl, ?_⟩))
          · skip
            have hwr : ¬ nI f61 = 0 := by rcases q61 with e | e <;> (rw [e]; decide)
            replace e61 : pNm (S 5) n _ _ (a36 + 1) = _ := e61
            refine V_iasr dX7_readMarble_64 (hM.1 29 (1, 67) rfl) (by omega) (by decide) ?_
            refine V_ald0 dX7_readMarble_65 ?_
            refine V_bipush (v := nI 59) dX7_readMarble_66 (by decide) ?_
            refine V_iv1 dX7_readMarble_68 wlX7_123 mdX7_sign miX7_sign rfl (hM.1 0 (0, 7) rfl) rfl rfl (kX7_signW hM (by exact hwr) ⟨rfl, ?_⟩)
            refine V_ald0 dX7_readMarble_71 ?_
            refine V_getR dX7_readMarble_72 flX7_50 (hM.1 0 (0, 7) rfl) (show G 40 0 28 = some (40, 29) from hM.2 28 (1, 67) rfl) ?_
            refine V_bipush (v := nI 49) dX7_readMarble_75 (by decide) ?_
            refine V_ald0 dX7_readMarble_77 ?_
            refine V_getIr dX7_readMarble_78 flX7_120 (hM.1 0 (0, 7) rfl) ?_
            refine V_eqI (show _ = nI i from hi) ?_
            refine V_iaddN dX7_readMarble_81 ?_
            refine V_bipush (v := nI 10) dX7_readMarble_82 (by decide) ?_
            refine V_iasr dX7_readMarble_84 (hM.1 29 (1, 67) rfl) (by omega) (by decide) ?_
            refine V_ald0 dX7_readMarble_85 ?_
            refine V_dupR dX7_readMarble_86 ?_
            refine V_getIr dX7_readMarble_87 flX7_120 (hM.1 0 (0, 7) rfl) ?_
            refine V_eqI (show _ = nI i from hi) ?_
            refine V_iconst (v := nI 1) dX7_readMarble_90 (by decide) ?_
            refine V_iaddN dX7_readMarble_91 ?_
            refine V_putIr dX7_readMarble_92 fwX7_120 (hM.1 0 (0, 7) rfl) ?_
            refine V_return dX7_readMarble_95 rfl ?_
            exact h0 (by omega) f61 (a36 + 1) _ (by unfold pMar; rw [if_pos e18, e36]; show (if _ then _ else _) = _; rw [if_pos e43, e61]) rfl hwr rfl (by repeat (first | exact rKeep.rf _ | refine rKeep.e ?_ (by decide) _ | refine rKeep.u ?_ (by decide) _))
          · skip
            replace e61 : pNm (S 5) n _ _ (a36 + 1) = _ := e61
            refine V_iasr dX7_readMarble_64 (hM.1 29 (1, 67) rfl) (by omega) (by decide) ?_
            refine V_ald0 dX7_readMarble_65 ?_
            refine V_bipush (v := nI 59) dX7_readMarble_66 (by decide) ?_
            refine V_iv1 dX7_readMarble_68 wlX7_123 mdX7_sign miX7_sign rfl (hM.1 0 (0, 7) rfl) rfl rfl (kX7_signO (n := n) (a := a61) hM (by exact hn) hn2 (by first | exact ha | rfl) (by omega) (by exact hw) (fun e68 => ⟨rfl, ?_⟩) (fun ne68 => ⟨rfl, ?_⟩))
            · skip
              replace e68 : pBy (S 5) n a61 = _ := e68
              have l68 := pBy_lt (by decide) e68
              refine V_ald0 dX7_readMarble_71 ?_
              refine V_getR dX7_readMarble_72 flX7_50 (hM.1 0 (0, 7) rfl) (show G 40 0 28 = some (40, 29) from hM.2 28 (1, 67) rfl) ?_
              refine V_bipush (v := nI 49) dX7_readMarble_75 (by decide) ?_
              refine V_ald0 dX7_readMarble_77 ?_
              refine V_getIr dX7_readMarble_78 flX7_120 (hM.1 0 (0, 7) rfl) ?_
              refine V_eqI (show _ = nI i from hi) ?_
              refine V_iaddN dX7_readMarble_81 ?_
              refine V_bipush (v := nI 10) dX7_readMarble_82 (by decide) ?_
              refine V_iasr dX7_readMarble_84 (hM.1 29 (1, 67) rfl) (by omega) (by decide) ?_
              refine V_ald0 dX7_readMarble_85 ?_
              refine V_dupR dX7_readMarble_86 ?_
              refine V_getIr dX7_readMarble_87 flX7_120 (hM.1 0 (0, 7) rfl) ?_
              refine V_eqI (show _ = nI i from hi) ?_
              refine V_iconst (v := nI 1) dX7_readMarble_90 (by decide) ?_
              refine V_iaddN dX7_readMarble_91 ?_
              refine V_putIr dX7_readMarble_92 fwX7_120 (hM.1 0 (0, 7) rfl) ?_
              refine V_return dX7_readMarble_95 rfl ?_
              exact h1 (by omega) v36 v61 (a61 + 1) _ (by unfold pMar; rw [if_pos e18, e36]; show (if _ then _ else _) = _; rw [if_pos e43, e61]; exact if_pos e68) rfl (by omega) hw rfl rfl rfl rfl rfl (by repeat (first | exact rKeep.rf _ | refine rKeep.e ?_ (by decide) _ | refine rKeep.u ?_ (by decide) _))
            · skip
              have hwr : ¬ nI 1 = 0 := by decide
              replace ne68 : ¬ pBy (S 5) n a61 = _ := ne68
              refine V_ald0 dX7_readMarble_71 ?_
              refine V_getR dX7_readMarble_72 flX7_50 (hM.1 0 (0, 7) rfl) (show G 40 0 28 = some (40, 29) from hM.2 28 (1, 67) rfl) ?_
              refine V_bipush (v := nI 49) dX7_readMarble_75 (by decide) ?_
              refine V_ald0 dX7_readMarble_77 ?_
              refine V_getIr dX7_readMarble_78 flX7_120 (hM.1 0 (0, 7) rfl) ?_
              refine V_eqI (show _ = nI i from hi) ?_
              refine V_iaddN dX7_readMarble_81 ?_
              refine V_bipush (v := nI 10) dX7_readMarble_82 (by decide) ?_
              refine V_iasr dX7_readMarble_84 (hM.1 29 (1, 67) rfl) (by omega) (by decide) ?_
              refine V_ald0 dX7_readMarble_85 ?_
              refine V_dupR dX7_readMarble_86 ?_
              refine V_getIr dX7_readMarble_87 flX7_120 (hM.1 0 (0, 7) rfl) ?_
              refine V_eqI (show _ = nI i from hi) ?_
              refine V_iconst (v := nI 1) dX7_readMarble_90 (by decide) ?_
              refine V_iaddN dX7_readMarble_91 ?_
              refine V_putIr dX7_readMarble_92 fwX7_120 (hM.1 0 (0, 7) rfl) ?_
              refine V_return dX7_readMarble_95 rfl ?_
              exact h0 (by omega) 1 a61 _ (by unfold pMar; rw [if_pos e18, e36]; show (if _ then _ else _) = _; rw [if_pos e43, e61]; exact if_neg ne68) rfl hwr rfl (by repeat (first | exact rKeep.rf _ | refine rKeep.e ?_ (by decide) _ | refine rKeep.u ?_ (by decide) _))
        · skip
          have hwr : ¬ nI 1 = 0 := by decide
          replace ne43 : ¬ pBy (S 5) n a36 = _ := ne43
          refine V_ald0 dX7_readMarble_46 ?_
          refine V_getR dX7_readMarble_47 flX7_50 (hM.1 0 (0, 7) rfl) (show G 40 0 28 = some (40, 29) from hM.2 28 (1, 67) rfl) ?_
          refine V_bipush (v := nI 61) dX7_readMarble_50 (by decide) ?_
          refine V_ald0 dX7_readMarble_52 ?_
          refine V_getIr dX7_readMarble_53 flX7_120 (hM.1 0 (0, 7) rfl) ?_
          refine V_eqI (show _ = nI i from hi) ?_
          refine V_iaddN dX7_readMarble_56 ?_
          refine V_ald0 dX7_readMarble_57 ?_
          refine V_iconst (v := nI 0) dX7_readMarble_58 (by decide) ?_
          refine V_bipush (v := nI 20) dX7_readMarble_59 (by decide) ?_
          refine V_iv2 dX7_readMarble_61 wlX7_126 mdX7_number miX7_number rfl (hM.1 0 (0, 7) rfl) rfl rfl (kX7_numberW (n := n) (a := a36) hM (by exact hn) hn2 (by first | exact ha | rfl) (by omega) (by exact hwr) ⟨rfl, ?_⟩)
          refine V_iasr dX7_readMarble_64 (hM.1 29 (1, 67) rfl) (by omega) (by decide) ?_
          refine V_ald0 dX7_readMarble_65 ?_
          refine V_bipush (v := nI 59) dX7_readMarble_66 (by decide) ?_
          refine V_iv1 dX7_readMarble_68 wlX7_123 mdX7_sign miX7_sign rfl (hM.1 0 (0, 7) rfl) rfl rfl (kX7_signW hM (by exact hwr) ⟨rfl, ?_⟩)
          refine V_ald0 dX7_readMarble_71 ?_
          refine V_getR dX7_readMarble_72 flX7_50 (hM.1 0 (0, 7) rfl) (show G 40 0 28 = some (40, 29) from hM.2 28 (1, 67) rfl) ?_
          refine V_bipush (v := nI 49) dX7_readMarble_75 (by decide) ?_
          refine V_ald0 dX7_readMarble_77 ?_
          refine V_getIr dX7_readMarble_78 flX7_120 (hM.1 0 (0, 7) rfl) ?_
          refine V_eqI (show _ = nI i from hi) ?_
          refine V_iaddN dX7_readMarble_81 ?_
          refine V_bipush (v := nI 10) dX7_readMarble_82 (by decide) ?_
          refine V_iasr dX7_readMarble_84 (hM.1 29 (1, 67) rfl) (by omega) (by decide) ?_
          refine V_ald0 dX7_readMarble_85 ?_
          refine V_dupR dX7_readMarble_86 ?_
          refine V_getIr dX7_readMarble_87 flX7_120 (hM.1 0 (0, 7) rfl) ?_
          refine V_eqI (show _ = nI i from hi) ?_
          refine V_iconst (v := nI 1) dX7_readMarble_90 (by decide) ?_
          refine V_iaddN dX7_readMarble_91 ?_
          refine V_putIr dX7_readMarble_92 fwX7_120 (hM.1 0 (0, 7) rfl) ?_
          refine V_return dX7_readMarble_95 rfl ?_
          exact h0 (by omega) 1 a36 _ (by unfold pMar; rw [if_pos e18, e36]; exact if_neg ne43) rfl hwr rfl (by repeat (first | exact rKeep.rf _ | refine rKeep.e ?_ (by decide) _ | refine rKeep.u ?_ (by decide) _))
    · skip
      have hwr : ¬ nI 1 = 0 := by decide
      replace ne18 : ¬ pBy (S 5) n a = _ := ne18
      refine V_ald0 dX7_readMarble_21 ?_
      refine V_getR dX7_readMarble_22 flX7_50 (hM.1 0 (0, 7) rfl) (show G 40 0 28 = some (40, 29) from hM.2 28 (1, 67) rfl) ?_
      refine V_bipush (v := nI 55) dX7_readMarble_25 (by decide) ?_
      refine V_ald0 dX7_readMarble_27 ?_
      refine V_getIr dX7_readMarble_28 flX7_120 (hM.1 0 (0, 7) rfl) ?_
      refine V_eqI (show _ = nI i from hi) ?_
      refine V_iaddN dX7_readMarble_31 ?_
      refine V_ald0 dX7_readMarble_32 ?_
      refine V_iconst (v := nI 1) dX7_readMarble_33 (by decide) ?_
      refine V_bipush (v := nI 9) dX7_readMarble_34 (by decide) ?_
      refine V_iv2 dX7_readMarble_36 wlX7_126 mdX7_number miX7_number rfl (hM.1 0 (0, 7) rfl) rfl rfl (kX7_numberW (n := n) (a := a) hM (by exact hn) hn2 (by first | exact ha | rfl) (by omega) (by exact hwr) ⟨rfl, ?_⟩)
      refine V_iasr dX7_readMarble_39 (hM.1 29 (1, 67) rfl) (by omega) (by decide) ?_
      refine V_ald0 dX7_readMarble_40 ?_
      refine V_bipush (v := nI 44) dX7_readMarble_41 (by decide) ?_
      refine V_iv1 dX7_readMarble_43 wlX7_123 mdX7_sign miX7_sign rfl (hM.1 0 (0, 7) rfl) rfl rfl (kX7_signW hM (by exact hwr) ⟨rfl, ?_⟩)
      refine V_ald0 dX7_readMarble_46 ?_
      refine V_getR dX7_readMarble_47 flX7_50 (hM.1 0 (0, 7) rfl) (show G 40 0 28 = some (40, 29) from hM.2 28 (1, 67) rfl) ?_
      refine V_bipush (v := nI 61) dX7_readMarble_50 (by decide) ?_
      refine V_ald0 dX7_readMarble_52 ?_
      refine V_getIr dX7_readMarble_53 flX7_120 (hM.1 0 (0, 7) rfl) ?_
      refine V_eqI (show _ = nI i from hi) ?_
      refine V_iaddN dX7_readMarble_56 ?_
      refine V_ald0 dX7_readMarble_57 ?_
      refine V_iconst (v := nI 0) dX7_readMarble_58 (by decide) ?_
      refine V_bipush (v := nI 20) dX7_readMarble_59 (by decide) ?_
      refine V_iv2 dX7_readMarble_61 wlX7_126 mdX7_number miX7_number rfl (hM.1 0 (0, 7) rfl) rfl rfl (kX7_numberW (n := n) (a := a) hM (by exact hn) hn2 (by first | exact ha | rfl) (by omega) (by exact hwr) ⟨rfl, ?_⟩)
      refine V_iasr dX7_readMarble_64 (hM.1 29 (1, 67) rfl) (by omega) (by decide) ?_
      refine V_ald0 dX7_readMarble_65 ?_
      refine V_bipush (v := nI 59) dX7_readMarble_66 (by decide) ?_
      refine V_iv1 dX7_readMarble_68 wlX7_123 mdX7_sign miX7_sign rfl (hM.1 0 (0, 7) rfl) rfl rfl (kX7_signW hM (by exact hwr) ⟨rfl, ?_⟩)
      refine V_ald0 dX7_readMarble_71 ?_
      refine V_getR dX7_readMarble_72 flX7_50 (hM.1 0 (0, 7) rfl) (show G 40 0 28 = some (40, 29) from hM.2 28 (1, 67) rfl) ?_
      refine V_bipush (v := nI 49) dX7_readMarble_75 (by decide) ?_
      refine V_ald0 dX7_readMarble_77 ?_
      refine V_getIr dX7_readMarble_78 flX7_120 (hM.1 0 (0, 7) rfl) ?_
      refine V_eqI (show _ = nI i from hi) ?_
      refine V_iaddN dX7_readMarble_81 ?_
      refine V_bipush (v := nI 10) dX7_readMarble_82 (by decide) ?_
      refine V_iasr dX7_readMarble_84 (hM.1 29 (1, 67) rfl) (by omega) (by decide) ?_
      refine V_ald0 dX7_readMarble_85 ?_
      refine V_dupR dX7_readMarble_86 ?_
      refine V_getIr dX7_readMarble_87 flX7_120 (hM.1 0 (0, 7) rfl) ?_
      refine V_eqI (show _ = nI i from hi) ?_
      refine V_iconst (v := nI 1) dX7_readMarble_90 (by decide) ?_
      refine V_iaddN dX7_readMarble_91 ?_
      refine V_putIr dX7_readMarble_92 fwX7_120 (hM.1 0 (0, 7) rfl) ?_
      refine V_return dX7_readMarble_95 rfl ?_
      exact h0 (by omega) 1 a _ (by unfold pMar; rw [if_neg ne18]) rfl hwr rfl (by repeat (first | exact rKeep.rf _ | refine rKeep.e ?_ (by decide) _ | refine rKeep.u ?_ (by decide) _))
  · skip
    refine V_ald0 dX7_readMarble_9 ?_
    refine V_iconst (v := nI 3) dX7_readMarble_10 (by decide) ?_
    refine V_iv1 dX7_readMarble_11 wlX7_113 mdX7_fails miX7_fails rfl (hM.1 0 (0, 7) rfl) rfl rfl (kX7_failsO hM ha hw ⟨rfl, ?_⟩)
    refine V_return dX7_readMarble_14 rfl ?_
    exact h3 c6
theorem kX7_readPiece (hM : xMo Y G) {n : Nat} (hn : S 0 5 = nI n) (hn2 : n ≤ 110) {a : Nat} (ha : S 0 21 = nI a) (ha2 : a ≤ n) (hw : S 0 23 = 0) {i : Nat} (hi : S 0 26 = nI i) (hi8 : i ≤ 8) (hz : pSo (pBy (S 5) n a) = 0 → Q none Y G (va_up N 40 (rE (rE S 23 (nI 1)) 22 (nI a)))) (h8 : ¬ pSo (pBy (S 5) n a) = 0 → i = 8 → Q none Y G (va_up N 40 (rE (rE S 23 (nI 3)) 22 (nI a)))) (h0 : ¬ pSo (pBy (S 5) n a) = 0 → i < 8 → ∀ f pl S2, pPie (S 5) n i a = .inl (f, pl) → S2 0 23 = nI f → ¬ nI f = 0 → S2 0 22 = nI pl → rKeep S S2 → Q none Y G (va_up N 40 S2)) (h1 : ¬ pSo (pBy (S 5) n a) = 0 → i < 8 → ∀ v l r a2 S2, pPie (S 5) n i a = .inr (v, l, r, a2) → S2 0 21 = nI a2 → a2 ≤ n → S2 0 23 = 0 → S2 0 26 = nI (i + 1) → S2 0 24 = S 0 24 → S2 0 25 = S 0 25 → S2 29 = upd (upd (upd (S 29) (1 + i) v) (9 + i) l) (17 + i) r → S2 28 = upd (S 28) i (pSo (pBy (S 5) n a)) → rKeep S S2 → Q none Y G (va_up N 40 S2)) : V RX7 false cX7_readPiece 2 none none (d + 3) b 0 [some (xR 40 0), none] [] Y G (va_up N 40 S) Q := by
  refine V_ald0 dX7_readPiece_0 ?_
  refine V_iv0 dX7_readPiece_1 wlX7_109 mdX7_here miX7_here rfl (hM.1 0 (0, 7) rfl) rfl rfl (kX7_here hM hn hn2 ha ha2 ⟨rfl, ?_⟩)
  refine V_is1 dX7_readPiece_4 wlX7_129 mdX7_sortBy msX7_sortBy rfl rfl (kX7_sortBy ⟨rfl, ?_⟩)
  refine V_ist1 dX7_readPiece_7 rfl ?_
  refine V_ild1 dX7_readPiece_8 ?_
  refine V_ifeq (tgt := 21) dX7_readPiece_9 (by decide) (fun c9 => ?_) (fun c9 => ?_)
  · skip
    refine V_ald0 dX7_readPiece_21 ?_
    refine V_ild1 dX7_readPiece_22 ?_
    refine V_ifne (tgt := 30) dX7_readPiece_23 (by decide) (fun c23 => ?_) (fun c23 => ?_)
    · exact absurd c9 c23
    · skip
      refine V_iconst (v := nI 1) dX7_readPiece_26 (by decide) ?_
      refine V_goto (tgt := 31) dX7_readPiece_27 (by decide) ?_
      refine V_iv1 dX7_readPiece_31 wlX7_113 mdX7_fails miX7_fails rfl (hM.1 0 (0, 7) rfl) rfl rfl (kX7_failsO hM ha hw ⟨rfl, ?_⟩)
      refine V_return dX7_readPiece_34 rfl ?_
      exact hz c9
  · skip
    refine V_ald0 dX7_readPiece_12 ?_
    refine V_getIr dX7_readPiece_13 flX7_132 (hM.1 0 (0, 7) rfl) ?_
    refine V_eqI hi ?_
    refine V_bipush (v := nI 8) dX7_readPiece_16 (by decide) ?_
    refine V_icmpneN (tgt := 35) dX7_readPiece_18 (by decide) (by omega) (by omega) (fun c18 => ?_) (fun c18 => ?_)
    · skip
      have hal : a < n := Nat.lt_of_not_le fun q => c9 (by unfold pBy; rw [if_neg (by omega)]; decide)
      have hp8 : i < 8 := by omega
      refine V_ald0 dX7_readPiece_35 ?_
      refine V_dupR dX7_readPiece_36 ?_
      refine V_getIr dX7_readPiece_37 flX7_100 (hM.1 0 (0, 7) rfl) ?_
      refine V_eqI ha ?_
      refine V_iconst (v := nI 1) dX7_readPiece_40 (by decide) ?_
      refine V_iaddN dX7_readPiece_41 ?_
      refine V_putIr dX7_readPiece_42 fwX7_100 (hM.1 0 (0, 7) rfl) ?_
      refine V_ald0 dX7_readPiece_45 ?_
      refine V_getR dX7_readPiece_46 flX7_47 (hM.1 0 (0, 7) rfl) (show G 40 0 27 = some (40, 28) from hM.2 27 (1, 8) rfl) ?_
      refine V_ald0 dX7_readPiece_49 ?_
      refine V_getIr dX7_readPiece_50 flX7_132 (hM.1 0 (0, 7) rfl) ?_
      refine V_eqI (show _ = nI i from hi) ?_
      refine V_ild1 dX7_readPiece_53 ?_
      refine V_iasr dX7_readPiece_54 (hM.1 28 (1, 8) rfl) (by omega) (by decide) ?_
      refine V_ald0 dX7_readPiece_55 ?_
      refine V_getR dX7_readPiece_56 flX7_50 (hM.1 0 (0, 7) rfl) (show G 40 0 28 = some (40, 29) from hM.2 28 (1, 67) rfl) ?_
      refine V_iconst (v := nI 1) dX7_readPiece_59 (by decide) ?_
      refine V_ald0 dX7_readPiece_60 ?_
      refine V_getIr dX7_readPiece_61 flX7_132 (hM.1 0 (0, 7) rfl) ?_
      refine V_eqI (show _ = nI i from hi) ?_
      refine V_iaddN dX7_readPiece_64 ?_
      refine V_ald0 dX7_readPiece_65 ?_
      refine V_iconst (v := nI 0) dX7_readPiece_66 (by decide) ?_
      refine V_iconst (v := nI 1) dX7_readPiece_67 (by decide) ?_
      refine V_iv2 dX7_readPiece_68 wlX7_126 mdX7_number miX7_number rfl (hM.1 0 (0, 7) rfl) rfl rfl (kX7_numberO (n := n) (a := (a + 1)) hM (by exact hn) hn2 (by first | exact ha | rfl) (by omega) (by exact hw) (fun f68 e68 q68 => ⟨rfl, ?_⟩) (fun v68 a68 e68 q68 r68 => ⟨rfl, ?_⟩))
      · skip
        have hwr : ¬ nI f68 = 0 := by rcases q68 with e | e <;> (rw [e]; decide)
        replace e68 : pNm (S 5) n _ _ (a + 1) = _ := e68
        refine V_iasr dX7_readPiece_71 (hM.1 29 (1, 67) rfl) (by omega) (by decide) ?_
        refine V_ald0 dX7_readPiece_72 ?_
        refine V_bipush (v := nI 44) dX7_readPiece_73 (by decide) ?_
        refine V_iv1 dX7_readPiece_75 wlX7_123 mdX7_sign miX7_sign rfl (hM.1 0 (0, 7) rfl) rfl rfl (kX7_signW hM (by exact hwr) ⟨rfl, ?_⟩)
        refine V_ald0 dX7_readPiece_78 ?_
        refine V_getR dX7_readPiece_79 flX7_50 (hM.1 0 (0, 7) rfl) (show G 40 0 28 = some (40, 29) from hM.2 28 (1, 67) rfl) ?_
        refine V_bipush (v := nI 9) dX7_readPiece_82 (by decide) ?_
        refine V_ald0 dX7_readPiece_84 ?_
        refine V_getIr dX7_readPiece_85 flX7_132 (hM.1 0 (0, 7) rfl) ?_
        refine V_eqI (show _ = nI i from hi) ?_
        refine V_iaddN dX7_readPiece_88 ?_
        refine V_ald0 dX7_readPiece_89 ?_
        refine V_ald0 dX7_readPiece_90 ?_
        refine V_getIr dX7_readPiece_91 flX7_132 (hM.1 0 (0, 7) rfl) ?_
        refine V_eqI (show _ = nI i from hi) ?_
        refine V_iconst (v := nI 1) dX7_readPiece_94 (by decide) ?_
        refine V_iaddN dX7_readPiece_95 ?_
        refine V_bipush (v := nI 9) dX7_readPiece_96 (by decide) ?_
        refine V_iv2 dX7_readPiece_98 wlX7_126 mdX7_number miX7_number rfl (hM.1 0 (0, 7) rfl) rfl rfl (kX7_numberW (n := n) (a := (a + 1)) hM (by exact hn) hn2 (by first | exact ha | rfl) (by omega) (by exact hwr) ⟨rfl, ?_⟩)
        refine V_iasr dX7_readPiece_101 (hM.1 29 (1, 67) rfl) (by omega) (by decide) ?_
        refine V_ald0 dX7_readPiece_102 ?_
        refine V_bipush (v := nI 44) dX7_readPiece_103 (by decide) ?_
        refine V_iv1 dX7_readPiece_105 wlX7_123 mdX7_sign miX7_sign rfl (hM.1 0 (0, 7) rfl) rfl rfl (kX7_signW hM (by exact hwr) ⟨rfl, ?_⟩)
        refine V_ald0 dX7_readPiece_108 ?_
        refine V_getR dX7_readPiece_109 flX7_50 (hM.1 0 (0, 7) rfl) (show G 40 0 28 = some (40, 29) from hM.2 28 (1, 67) rfl) ?_
        refine V_bipush (v := nI 17) dX7_readPiece_112 (by decide) ?_
        refine V_ald0 dX7_readPiece_114 ?_
        refine V_getIr dX7_readPiece_115 flX7_132 (hM.1 0 (0, 7) rfl) ?_
        refine V_eqI (show _ = nI i from hi) ?_
        refine V_iaddN dX7_readPiece_118 ?_
        refine V_ald0 dX7_readPiece_119 ?_
        refine V_ald0 dX7_readPiece_120 ?_
        refine V_getIr dX7_readPiece_121 flX7_132 (hM.1 0 (0, 7) rfl) ?_
        refine V_eqI (show _ = nI i from hi) ?_
        refine V_iconst (v := nI 1) dX7_readPiece_124 (by decide) ?_
        refine V_iaddN dX7_readPiece_125 ?_
        refine V_bipush (v := nI 9) dX7_readPiece_126 (by decide) ?_
        refine V_iv2 dX7_readPiece_128 wlX7_126 mdX7_number miX7_number rfl (hM.1 0 (0, 7) rfl) rfl rfl (kX7_numberW (n := n) (a := (a + 1)) hM (by exact hn) hn2 (by first | exact ha | rfl) (by omega) (by exact hwr) ⟨rfl, ?_⟩)
        refine V_iasr dX7_readPiece_131 (hM.1 29 (1, 67) rfl) (by omega) (by decide) ?_
        refine V_ald0 dX7_readPiece_132 ?_
        refine V_bipush (v := nI 59) dX7_readPiece_133 (by decide) ?_
        refine V_iv1 dX7_readPiece_135 wlX7_123 mdX7_sign miX7_sign rfl (hM.1 0 (0, 7) rfl) rfl rfl (kX7_signW hM (by exact hwr) ⟨rfl, ?_⟩)
        refine V_ald0 dX7_readPiece_138 ?_
        refine V_dupR dX7_readPiece_139 ?_
        refine V_getIr dX7_readPiece_140 flX7_132 (hM.1 0 (0, 7) rfl) ?_
        refine V_eqI (show _ = nI i from hi) ?_
        refine V_iconst (v := nI 1) dX7_readPiece_143 (by decide) ?_
        refine V_iaddN dX7_readPiece_144 ?_
        refine V_putIr dX7_readPiece_145 fwX7_132 (hM.1 0 (0, 7) rfl) ?_
        refine V_return dX7_readPiece_148 rfl ?_
        exact h0 c9 hp8 f68 (a + 1) _ (by unfold pPie; rw [e68]) rfl hwr rfl (by repeat (first | exact rKeep.rf _ | refine rKeep.e ?_ (by decide) _ | refine rKeep.u ?_ (by decide) _))
      · skip
        replace e68 : pNm (S 5) n _ _ (a + 1) = _ := e68
        refine V_iasr dX7_readPiece_71 (hM.1 29 (1, 67) rfl) (by omega) (by decide) ?_
        refine V_ald0 dX7_readPiece_72 ?_
        refine V_bipush (v := nI 44) dX7_readPiece_73 (by decide) ?_
        refine V_iv1 dX7_readPiece_75 wlX7_123 mdX7_sign miX7_sign rfl (hM.1 0 (0, 7) rfl) rfl rfl (kX7_signO (n := n) (a := a68) hM (by exact hn) hn2 (by first | exact ha | rfl) (by omega) (by exact hw) (fun e75 => ⟨rfl, ?_⟩) (fun ne75 => ⟨rfl, ?_⟩))
        · skip
          replace e75 : pBy (S 5) n a68 = _ := e75
          have l75 := pBy_lt (by decide) e75
          refine V_ald0 dX7_readPiece_78 ?_
          refine V_getR dX7_readPiece_79 flX7_50 (hM.1 0 (0, 7) rfl) (show G 40 0 28 = some (40, 29) from hM.2 28 (1, 67) rfl) ?_
          refine V_bipush (v := nI 9) dX7_readPiece_82 (by decide) ?_
          refine V_ald0 dX7_readPiece_84 ?_
          refine V_getIr dX7_readPiece_85 flX7_132 (hM.1 0 (0, 7) rfl) ?_
          refine V_eqI (show _ = nI i from hi) ?_
          refine V_iaddN dX7_readPiece_88 ?_
          refine V_ald0 dX7_readPiece_89 ?_
          refine V_ald0 dX7_readPiece_90 ?_
          refine V_getIr dX7_readPiece_91 flX7_132 (hM.1 0 (0, 7) rfl) ?_
          refine V_eqI (show _ = nI i from hi) ?_
          refine V_iconst (v := nI 1) dX7_readPiece_94 (by decide) ?_
          refine V_iaddN dX7_readPiece_95 ?_
          refine V_bipush (v := nI 9) dX7_readPiece_96 (by decide) ?_
          refine V_iv2 dX7_readPiece_98 wlX7_126 mdX7_number miX7_number rfl (hM.1 0 (0, 7) rfl) rfl rfl (kX7_numberO (n := n) (a := (a68 + 1)) hM (by exact hn) hn2 (by first | exact ha | rfl) (by omega) (by exact hw) (fun f98 e98 q98 => ⟨rfl, ?_⟩) (fun v98 a98 e98 q98 r98 => ⟨rfl, ?_⟩))
          · skip
            have hwr : ¬ nI f98 = 0 := by rcases q98 with e | e <;> (rw [e]; decide)
            replace e98 : pNm (S 5) n _ _ (a68 + 1) = _ := e98
            refine V_iasr dX7_readPiece_101 (hM.1 29 (1, 67) rfl) (by omega) (by decide) ?_
            refine V_ald0 dX7_readPiece_102 ?_
            refine V_bipush (v := nI 44) dX7_readPiece_103 (by decide) ?_
            refine V_iv1 dX7_readPiece_105 wlX7_123 mdX7_sign miX7_sign rfl (hM.1 0 (0, 7) rfl) rfl rfl (kX7_signW hM (by exact hwr) ⟨rfl, ?_⟩)
            refine V_ald0 dX7_readPiece_108 ?_
            refine V_getR dX7_readPiece_109 flX7_50 (hM.1 0 (0, 7) rfl) (show G 40 0 28 = some (40, 29) from hM.2 28 (1, 67) rfl) ?_
            refine V_bipush (v := nI 17) dX7_readPiece_112 (by decide) ?_
            refine V_ald0 dX7_readPiece_114 ?_
            refine V_getIr dX7_readPiece_115 flX7_132 (hM.1 0 (0, 7) rfl) ?_
            refine V_eqI (show _ = nI i from hi) ?_
            refine V_iaddN dX7_readPiece_118 ?_
            refine V_ald0 dX7_readPiece_119 ?_
            refine V_ald0 dX7_readPiece_120 ?_
            refine V_getIr dX7_readPiece_121 flX7_132 (hM.1 0 (0, 7) rfl) ?_
            refine V_eqI (show _ = nI i from hi) ?_
            refine V_iconst (v := nI 1) dX7_readPiece_124 (by decide) ?_
            refine V_iaddN dX7_readPiece_125 ?_
            refine V_bipush (v := nI 9) dX7_readPiece_126 (by decide) ?_
            refine V_iv2 dX7_readPiece_128 wlX7_126 mdX7_number miX7_number rfl (hM.1 0 (0, 7) rfl) rfl rfl (kX7_numberW (n := n) (a := (a68 + 1)) hM (by exact hn) hn2 (by first | exact ha | rfl) (by omega) (by exact hwr) ⟨rfl, ?_⟩)
            refine V_iasr dX7_readPiece_131 (hM.1 29 (1, 67) rfl) (by omega) (by decide) ?_
            refine V_ald0 dX7_readPiece_132 ?_
            refine V_bipush (v := nI 59) dX7_readPiece_133 (by decide) ?_
            refine V_iv1 dX7_readPiece_135 wlX7_123 mdX7_sign miX7_sign rfl (hM.1 0 (0, 7) rfl) rfl rfl (kX7_signW hM (by exact hwr) ⟨rfl, ?_⟩)
            refine V_ald0 dX7_readPiece_138 ?_
            refine V_dupR dX7_readPiece_139 ?_
            refine V_getIr dX7_readPiece_140 flX7_132 (hM.1 0 (0, 7) rfl) ?_
            refine V_eqI (show _ = nI i from hi) ?_
            refine V_iconst (v := nI 1) dX7_readPiece_143 (by decide) ?_
            refine V_iaddN dX7_readPiece_144 ?_
            refine V_putIr dX7_readPiece_145 fwX7_132 (hM.1 0 (0, 7) rfl) ?_
            refine V_return dX7_readPiece_148 rfl ?_
            exact h0 c9 hp8 f98 (a68 + 1) _ (by unfold pPie; rw [e68]; show (if _ then _ else _) = _; rw [if_pos e75, e98]) rfl hwr rfl (by repeat (first | exact rKeep.rf _ | refine rKeep.e ?_ (by decide) _ | refine rKeep.u ?_ (by decide) _))
          · skip
            replace e98 : pNm (S 5) n _ _ (a68 + 1) = _ := e98
            refine V_iasr dX7_readPiece_101 (hM.1 29 (1, 67) rfl) (by omega) (by decide) ?_
            refine V_ald0 dX7_readPiece_102 ?_
            refine V_bipush (v := nI 44) dX7_readPiece_103 (by decide) ?_
            refine V_iv1 dX7_readPiece_105 wlX7_123 mdX7_sign miX7_sign rfl (hM.1 0 (0, 7) rfl) rfl rfl (kX7_signO (n := n) (a := a98) hM (by exact hn) hn2 (by first | exact ha | rfl) (by omega) (by exact hw) (fun e105 => ⟨rfl, ?_⟩) (fun ne105 => ⟨rfl, ?_⟩))
            · skip
              replace e105 : pBy (S 5) n a98 = _ := e105
              have l105 := pBy_lt (by decide) e105
              refine V_ald0 dX7_readPiece_108 ?_
              refine V_getR dX7_readPiece_109 flX7_50 (hM.1 0 (0, 7) rfl) (show G 40 0 28 = some (40, 29) from hM.2 28 (1, 67) rfl) ?_
              refine V_bipush (v := nI 17) dX7_readPiece_112 (by decide) ?_
              refine V_ald0 dX7_readPiece_114 ?_
              refine V_getIr dX7_readPiece_115 flX7_132 (hM.1 0 (0, 7) rfl) ?_
              refine V_eqI (show _ = nI i from hi) ?_
              refine V_iaddN dX7_readPiece_118 ?_
              refine V_ald0 dX7_readPiece_119 ?_
              refine V_ald0 dX7_readPiece_120 ?_
              refine V_getIr dX7_readPiece_121 flX7_132 (hM.1 0 (0, 7) rfl) ?_
              refine V_eqI (show _ = nI i from hi) ?_
              refine V_iconst (v := nI 1) dX7_readPiece_124 (by decide) ?_
              refine V_iaddN dX7_readPiece_125 ?_
              refine V_bipush (v := nI 9) dX7_readPiece_126 (by decide) ?_
              refine V_iv2 dX7_readPiece_128 wlX7_126 mdX7_number miX7_number rfl (hM.1 0 (0, 7) rfl) rfl rfl (kX7_numberO (n := n) (a := (a98 + 1)) hM (by exact hn) hn2 (by first | exact ha | rfl) (by omega) (by exact hw) (fun f128 e128 q128 => ⟨rfl, ?_⟩) (fun v128 a128 e128 q128 r128 => ⟨rfl, ?_⟩))
              · skip
                have hwr : ¬ nI f128 = 0 := by rcases q128 with e | e <;> (rw [e]; decide)
                replace e128 : pNm (S 5) n _ _ (a98 + 1) = _ := e128
                refine V_iasr dX7_readPiece_131 (hM.1 29 (1, 67) rfl) (by omega) (by decide) ?_
                refine V_ald0 dX7_readPiece_132 ?_
                refine V_bipush (v := nI 59) dX7_readPiece_133 (by decide) ?_
                refine V_iv1 dX7_readPiece_135 wlX7_123 mdX7_sign miX7_sign rfl (hM.1 0 (0, 7) rfl) rfl rfl (kX7_signW hM (by exact hwr) ⟨rfl, ?_⟩)
                refine V_ald0 dX7_readPiece_138 ?_
                refine V_dupR dX7_readPiece_139 ?_
                refine V_getIr dX7_readPiece_140 flX7_132 (hM.1 0 (0, 7) rfl) ?_
                refine V_eqI (show _ = nI i from hi) ?_
                refine V_iconst (v := nI 1) dX7_readPiece_143 (by decide) ?_
                refine V_iaddN dX7_readPiece_144 ?_
                refine V_putIr dX7_readPiece_145 fwX7_132 (hM.1 0 (0, 7) rfl) ?_
                refine V_return dX7_readPiece_148 rfl ?_
                exact h0 c9 hp8 f128 (a98 + 1) _ (by unfold pPie; rw [e68]; show (if _ then _ else _) = _; rw [if_pos e75, e98]; show (if _ then _ else _) = _; rw [if_pos e105, e128]) rfl hwr rfl (by repeat (first | exact rKeep.rf _ | refine rKeep.e ?_ (by decide) _ | refine rKeep.u ?_ (by decide) _))
              · skip
                replace e128 : pNm (S 5) n _ _ (a98 + 1) = _ := e128
                refine V_iasr dX7_readPiece_131 (hM.1 29 (1, 67) rfl) (by omega) (by decide) ?_
                refine V_ald0 dX7_readPiece_132 ?_
                refine V_bipush (v := nI 59) dX7_readPiece_133 (by decide) ?_
                refine V_iv1 dX7_readPiece_135 wlX7_123 mdX7_sign miX7_sign rfl (hM.1 0 (0, 7) rfl) rfl rfl (kX7_signO (n := n) (a := a128) hM (by exact hn) hn2 (by first | exact ha | rfl) (by omega) (by exact hw) (fun e135 => ⟨rfl, ?_⟩) (fun ne135 => ⟨rfl, ?_⟩))
                · skip
                  replace e135 : pBy (S 5) n a128 = _ := e135
                  have l135 := pBy_lt (by decide) e135
                  refine V_ald0 dX7_readPiece_138 ?_
                  refine V_dupR dX7_readPiece_139 ?_
                  refine V_getIr dX7_readPiece_140 flX7_132 (hM.1 0 (0, 7) rfl) ?_
                  refine V_eqI (show _ = nI i from hi) ?_
                  refine V_iconst (v := nI 1) dX7_readPiece_143 (by decide) ?_
                  refine V_iaddN dX7_readPiece_144 ?_
                  refine V_putIr dX7_readPiece_145 fwX7_132 (hM.1 0 (0, 7) rfl) ?_
                  refine V_return dX7_readPiece_148 rfl ?_
                  exact h1 c9 hp8 v68 v98 v128 (a128 + 1) _ (by unfold pPie; rw [e68]; show (if _ then _ else _) = _; rw [if_pos e75, e98]; show (if _ then _ else _) = _; rw [if_pos e105, e128]; exact if_pos e135) rfl (by omega) hw rfl rfl rfl rfl rfl (by repeat (first | exact rKeep.rf _ | refine rKeep.e ?_ (by decide) _ | refine rKeep.u ?_ (by decide) _))
                · skip
                  have hwr : ¬ nI 1 = 0 := by decide
                  replace ne135 : ¬ pBy (S 5) n a128 = _ := ne135
                  refine V_ald0 dX7_readPiece_138 ?_
                  refine V_dupR dX7_readPiece_139 ?_
                  refine V_getIr dX7_readPiece_140 flX7_132 (hM.1 0 (0, 7) rfl) ?_
                  refine V_eqI (show _ = nI i from hi) ?_
                  refine V_iconst (v := nI 1) dX7_readPiece_143 (by decide) ?_
                  refine V_iaddN dX7_readPiece_144 ?_
                  refine V_putIr dX7_readPiece_145 fwX7_132 (hM.1 0 (0, 7) rfl) ?_
                  refine V_return dX7_readPiece_148 rfl ?_
                  exact h0 c9 hp8 1 a128 _ (by unfold pPie; rw [e68]; show (if _ then _ else _) = _; rw [if_pos e75, e98]; show (if _ then _ else _) = _; rw [if_pos e105, e128]; exact if_neg ne135) rfl hwr rfl (by repeat (first | exact rKeep.rf _ | refine rKeep.e ?_ (by decide) _ | refine rKeep.u ?_ (by decide) _))
            · skip
              have hwr : ¬ nI 1 = 0 := by decide
              replace ne105 : ¬ pBy (S 5) n a98 = _ := ne105
              refine V_ald0 dX7_readPiece_108 ?_
              refine V_getR dX7_readPiece_109 flX7_50 (hM.1 0 (0, 7) rfl) (show G 40 0 28 = some (40, 29) from hM.2 28 (1, 67) rfl) ?_
              refine V_bipush (v := nI 17) dX7_readPiece_112 (by decide) ?_
              refine V_ald0 dX7_readPiece_114 ?_
              refine V_getIr dX7_readPiece_115 flX7_132 (hM.1 0 (0, 7) rfl) ?_
              refine V_eqI (show _ = nI i from hi) ?_
              refine V_iaddN dX7_readPiece_118 ?_
              refine V_ald0 dX7_readPiece_119 ?_
              refine V_ald0 dX7_readPiece_120 ?_
              refine V_getIr dX7_readPiece_121 flX7_132 (hM.1 0 (0, 7) rfl) ?_
              refine V_eqI (show _ = nI i from hi) ?_
              refine V_iconst (v := nI 1) dX7_readPiece_124 (by decide) ?_
              refine V_iaddN dX7_readPiece_125 ?_
              refine V_bipush (v := nI 9) dX7_readPiece_126 (by decide) ?_
              refine V_iv2 dX7_readPiece_128 wlX7_126 mdX7_number miX7_number rfl (hM.1 0 (0, 7) rfl) rfl rfl (kX7_numberW (n := n) (a := a98) hM (by exact hn) hn2 (by first | exact ha | rfl) (by omega) (by exact hwr) ⟨rfl, ?_⟩)
              refine V_iasr dX7_readPiece_131 (hM.1 29 (1, 67) rfl) (by omega) (by decide) ?_
              refine V_ald0 dX7_readPiece_132 ?_
              refine V_bipush (v := nI 59) dX7_readPiece_133 (by decide) ?_
              refine V_iv1 dX7_readPiece_135 wlX7_123 mdX7_sign miX7_sign rfl (hM.1 0 (0, 7) rfl) rfl rfl (kX7_signW hM (by exact hwr) ⟨rfl, ?_⟩)
              refine V_ald0 dX7_readPiece_138 ?_
              refine V_dupR dX7_readPiece_139 ?_
              refine V_getIr dX7_readPiece_140 flX7_132 (hM.1 0 (0, 7) rfl) ?_
              refine V_eqI (show _ = nI i from hi) ?_
              refine V_iconst (v := nI 1) dX7_readPiece_143 (by decide) ?_
              refine V_iaddN dX7_readPiece_144 ?_
              refine V_putIr dX7_readPiece_145 fwX7_132 (hM.1 0 (0, 7) rfl) ?_
              refine V_return dX7_readPiece_148 rfl ?_
              exact h0 c9 hp8 1 a98 _ (by unfold pPie; rw [e68]; show (if _ then _ else _) = _; rw [if_pos e75, e98]; exact if_neg ne105) rfl hwr rfl (by repeat (first | exact rKeep.rf _ | refine rKeep.e ?_ (by decide) _ | refine rKeep.u ?_ (by decide) _))
        · skip
          have hwr : ¬ nI 1 = 0 := by decide
          replace ne75 : ¬ pBy (S 5) n a68 = _ := ne75
          refine V_ald0 dX7_readPiece_78 ?_
          refine V_getR dX7_readPiece_79 flX7_50 (hM.1 0 (0, 7) rfl) (show G 40 0 28 = some (40, 29) from hM.2 28 (1, 67) rfl) ?_
          refine V_bipush (v := nI 9) dX7_readPiece_82 (by decide) ?_
          refine V_ald0 dX7_readPiece_84 ?_
          refine V_getIr dX7_readPiece_85 flX7_132 (hM.1 0 (0, 7) rfl) ?_
          refine V_eqI (show _ = nI i from hi) ?_
          refine V_iaddN dX7_readPiece_88 ?_
          refine V_ald0 dX7_readPiece_89 ?_
          refine V_ald0 dX7_readPiece_90 ?_
          refine V_getIr dX7_readPiece_91 flX7_132 (hM.1 0 (0, 7) rfl) ?_
          refine V_eqI (show _ = nI i from hi) ?_
          refine V_iconst (v := nI 1) dX7_readPiece_94 (by decide) ?_
          refine V_iaddN dX7_readPiece_95 ?_
          refine V_bipush (v := nI 9) dX7_readPiece_96 (by decide) ?_
          refine V_iv2 dX7_readPiece_98 wlX7_126 mdX7_number miX7_number rfl (hM.1 0 (0, 7) rfl) rfl rfl (kX7_numberW (n := n) (a := a68) hM (by exact hn) hn2 (by first | exact ha | rfl) (by omega) (by exact hwr) ⟨rfl, ?_⟩)
          refine V_iasr dX7_readPiece_101 (hM.1 29 (1, 67) rfl) (by omega) (by decide) ?_
          refine V_ald0 dX7_readPiece_102 ?_
          refine V_bipush (v := nI 44) dX7_readPiece_103 (by decide) ?_
          refine V_iv1 dX7_readPiece_105 wlX7_123 mdX7_sign miX7_sign rfl (hM.1 0 (0, 7) rfl) rfl rfl (kX7_signW hM (by exact hwr) ⟨rfl, ?_⟩)
          refine V_ald0 dX7_readPiece_108 ?_
          refine V_getR dX7_readPiece_109 flX7_50 (hM.1 0 (0, 7) rfl) (show G 40 0 28 = some (40, 29) from hM.2 28 (1, 67) rfl) ?_
          refine V_bipush (v := nI 17) dX7_readPiece_112 (by decide) ?_
          refine V_ald0 dX7_readPiece_114 ?_
          refine V_getIr dX7_readPiece_115 flX7_132 (hM.1 0 (0, 7) rfl) ?_
          refine V_eqI (show _ = nI i from hi) ?_
          refine V_iaddN dX7_readPiece_118 ?_
          refine V_ald0 dX7_readPiece_119 ?_
          refine V_ald0 dX7_readPiece_120 ?_
          refine V_getIr dX7_readPiece_121 flX7_132 (hM.1 0 (0, 7) rfl) ?_
          refine V_eqI (show _ = nI i from hi) ?_
          refine V_iconst (v := nI 1) dX7_readPiece_124 (by decide) ?_
          refine V_iaddN dX7_readPiece_125 ?_
          refine V_bipush (v := nI 9) dX7_readPiece_126 (by decide) ?_
          refine V_iv2 dX7_readPiece_128 wlX7_126 mdX7_number miX7_number rfl (hM.1 0 (0, 7) rfl) rfl rfl (kX7_numberW (n := n) (a := a68) hM (by exact hn) hn2 (by first | exact ha | rfl) (by omega) (by exact hwr) ⟨rfl, ?_⟩)
          refine V_iasr dX7_readPiece_131 (hM.1 29 (1, 67) rfl) (by omega) (by decide) ?_
          refine V_ald0 dX7_readPiece_132 ?_
          refine V_bipush (v := nI 59) dX7_readPiece_133 (by decide) ?_
          refine V_iv1 dX7_readPiece_135 wlX7_123 mdX7_sign miX7_sign rfl (hM.1 0 (0, 7) rfl) rfl rfl (kX7_signW hM (by exact hwr) ⟨rfl, ?_⟩)
          refine V_ald0 dX7_readPiece_138 ?_
          refine V_dupR dX7_readPiece_139 ?_
          refine V_getIr dX7_readPiece_140 flX7_132 (hM.1 0 (0, 7) rfl) ?_
          refine V_eqI (show _ = nI i from hi) ?_
          refine V_iconst (v := nI 1) dX7_readPiece_143 (by decide) ?_
          refine V_iaddN dX7_readPiece_144 ?_
          refine V_putIr dX7_readPiece_145 fwX7_132 (hM.1 0 (0, 7) rfl) ?_
          refine V_return dX7_readPiece_148 rfl ?_
          exact h0 c9 hp8 1 a68 _ (by unfold pPie; rw [e68]; exact if_neg ne75) rfl hwr rfl (by repeat (first | exact rKeep.rf _ | refine rKeep.e ?_ (by decide) _ | refine rKeep.u ?_ (by decide) _))
    · skip
      refine V_ald0 dX7_readPiece_21 ?_
      refine V_ild1 dX7_readPiece_22 ?_
      refine V_ifne (tgt := 30) dX7_readPiece_23 (by decide) (fun c23 => ?_) (fun c23 => ?_)
      · skip
        refine V_iconst (v := nI 3) dX7_readPiece_30 (by decide) ?_
        refine V_iv1 dX7_readPiece_31 wlX7_113 mdX7_fails miX7_fails rfl (hM.1 0 (0, 7) rfl) rfl rfl (kX7_failsO hM ha hw ⟨rfl, ?_⟩)
        refine V_return dX7_readPiece_34 rfl ?_
        exact h8 c9 (by omega)
      · exact absurd c23 c9
end KM
