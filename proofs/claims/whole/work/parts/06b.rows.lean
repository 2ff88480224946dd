section KC
variable {d : Nat} {b : Nat × Nat} {Y : xY} {G : xG} {N : xM} {R U A S T : xT} {Q : Option xAV → xY → xG → xM → Prop}
theorem kX2_isMissing (hS : xSt Y G) {j : Nat} (hj : j < 8) (hQ : Q (some (xI (if R 3 j = -1 then 1 else 0))) Y G (va_up N 1 R)) : V RX2 false cX2_isMissing 2 (some .boolean) none d b 0 [some (xR 1 0), some (xI (nI j))] [] Y G (va_up N 1 R) Q := by
  refine V_ald0 dX2_isMissing_0 ?_
  refine V_getR dX2_isMissing_1 flX2_18 (hS.r1.1 0 (0, 2) rfl) (hS.r1.2 2 (1, 3) rfl) ?_
  refine V_ild1 dX2_isMissing_4 ?_
  refine V_iar dX2_isMissing_5 (hS.r1.1 3 (1, 8) rfl) (by omega) (by decide) ?_
  refine V_iconst (v := (-1)) dX2_isMissing_6 (by decide) ?_
  refine V_icmpne (tgt := 14) dX2_isMissing_7 (by decide) (fun c7 => ?_) (fun c7 => ?_)
  · skip
    refine V_iconst (v := 0) dX2_isMissing_14 (by decide) ?_
    refine V_ireturn dX2_isMissing_15 ⟨_, rfl, xbool (by first | exact Or.inl rfl | exact Or.inr rfl | exact xite01 _)⟩ ?_
    rw [if_neg c7] at hQ
    exact hQ
  · skip
    refine V_iconst (v := 1) dX2_isMissing_10 (by decide) ?_
    refine V_goto (tgt := 15) dX2_isMissing_11 (by decide) ?_
    refine V_ireturn dX2_isMissing_15 ⟨_, rfl, xbool (by first | exact Or.inl rfl | exact Or.inr rfl | exact xite01 _)⟩ ?_
    rw [if_pos c7] at hQ
    exact hQ
theorem kX2_laneOf (hS : xSt Y G) {j : Nat} (hj : j < 8) (hQ : Q (some (xI (R 2 j))) Y G (va_up N 1 R)) : V RX2 false cX2_laneOf 2 (some .int) none d b 0 [some (xR 1 0), some (xI (nI j))] [] Y G (va_up N 1 R) Q := by
  refine V_ald0 dX2_laneOf_0 ?_
  refine V_getR dX2_laneOf_1 flX2_14 (hS.r1.1 0 (0, 2) rfl) (hS.r1.2 1 (1, 2) rfl) ?_
  refine V_ild1 dX2_laneOf_4 ?_
  refine V_iar dX2_laneOf_5 (hS.r1.1 2 (1, 8) rfl) (by omega) (by decide) ?_
  refine V_ireturn dX2_laneOf_6 ⟨_, rfl, vp_nar_int _⟩ ?_
  exact hQ
theorem kX2_itemsOf (hS : xSt Y G) {j : Nat} (hj : j < 8) (hQ : Q (some (xR 1 (10 + j))) Y G (va_up N 1 R)) : V RX2 false cX2_itemsOf 2 (some (.array .int)) none d b 0 [some (xR 1 0), some (xI (nI j))] [] Y G (va_up N 1 R) Q := by
  refine V_ald0 dX2_itemsOf_0 ?_
  refine V_getR dX2_itemsOf_1 flX2_11 (hS.r1.1 0 (0, 2) rfl) (hS.r1.2 0 (1, 1) rfl) ?_
  refine V_ild1 dX2_itemsOf_4 ?_
  refine V_gaN dX2_itemsOf_5 (hS.r1.1 1 (3, 8) rfl) (by omega) (by decide) (hS.it hj) ?_
  refine V_areturn dX2_itemsOf_6 ⟨⟨_, rfl, Or.inr ⟨_, rfl⟩⟩, fun a ha => ⟨_, by cases ha; exact hS.iy hj⟩⟩ ?_
  exact hQ
abbrev cHas (R : xT) (j : Nat) (i n : Int32) : Prop := ¬ i < 0 ∧ ¬ n < 0 ∧ ¬ R 3 j - n < i
theorem kX2_has (hS : xSt Y G) {j : Nat} (hj : j < 8) {i n : Int32} (hQ : Q (some (xI (if cHas R j i n then 1 else 0))) Y G (va_up N 1 R)) : V RX2 false cX2_has 4 (some .boolean) none d b 0 [some (xR 1 0), some (xI (nI j)), some (xI i), some (xI n)] [] Y G (va_up N 1 R) Q := by
  refine V_ild2 dX2_has_0 ?_
  refine V_iflt (tgt := 24) dX2_has_1 (by decide) (fun c1 => ?_) (fun c1 => ?_)
  · skip
    refine V_iconst (v := 0) dX2_has_24 (by decide) ?_
    refine V_ireturn dX2_has_25 ⟨_, rfl, xbool (by first | exact Or.inl rfl | exact Or.inr rfl | exact xite01 _)⟩ ?_
    rw [if_neg (fun h => h.1 c1)] at hQ
    exact hQ
  · skip
    refine V_ild3 dX2_has_4 ?_
    refine V_iflt (tgt := 24) dX2_has_5 (by decide) (fun c5 => ?_) (fun c5 => ?_)
    · skip
      refine V_iconst (v := 0) dX2_has_24 (by decide) ?_
      refine V_ireturn dX2_has_25 ⟨_, rfl, xbool (by first | exact Or.inl rfl | exact Or.inr rfl | exact xite01 _)⟩ ?_
      rw [if_neg (fun h => h.2.1 c5)] at hQ
      exact hQ
    · skip
      refine V_ild2 dX2_has_8 ?_
      refine V_ald0 dX2_has_9 ?_
      refine V_getR dX2_has_10 flX2_18 (hS.r1.1 0 (0, 2) rfl) (hS.r1.2 2 (1, 3) rfl) ?_
      refine V_ild1 dX2_has_13 ?_
      refine V_iar dX2_has_14 (hS.r1.1 3 (1, 8) rfl) (by omega) (by decide) ?_
      refine V_ild3 dX2_has_15 ?_
      refine V_isub dX2_has_16 ?_
      refine V_icmpgt (tgt := 24) dX2_has_17 (by decide) (fun c17 => ?_) (fun c17 => ?_)
      · skip
        refine V_iconst (v := 0) dX2_has_24 (by decide) ?_
        refine V_ireturn dX2_has_25 ⟨_, rfl, xbool (by first | exact Or.inl rfl | exact Or.inr rfl | exact xite01 _)⟩ ?_
        rw [if_neg (fun h => h.2.2 c17)] at hQ
        exact hQ
      · skip
        refine V_iconst (v := 1) dX2_has_20 (by decide) ?_
        refine V_goto (tgt := 25) dX2_has_21 (by decide) ?_
        refine V_ireturn dX2_has_25 ⟨_, rfl, xbool (by first | exact Or.inl rfl | exact Or.inr rfl | exact xite01 _)⟩ ?_
        rw [if_pos ⟨c1, c5, c17⟩] at hQ
        exact hQ
def cMake (R : xT) (j : Nat) (l n : Int32) : xT := va_up (va_up (va_up R 2 (upd (R 2) j l)) 3 (upd (va_up R 2 (upd (R 2) j l) 3) j n)) (10 + j) (xFill (va_up (va_up R 2 (upd (R 2) j l)) 3 (upd (va_up R 2 (upd (R 2) j l) 3) j n) (10 + j)) (nI 0) 40)
theorem kX2_make (hS : xSt Y G) {j : Nat} (hj : j < 8) {l n : Int32} (hQ : Q none Y G (va_up N 1 (cMake R j l n))) : V RX2 false cX2_make 4 none none (d + 1) b 0 [some (xR 1 0), some (xI (nI j)), some (xI l), some (xI n)] [] Y G (va_up N 1 R) Q := by
  refine V_ald0 dX2_make_0 ?_
  refine V_getR dX2_make_1 flX2_14 (hS.r1.1 0 (0, 2) rfl) (hS.r1.2 1 (1, 2) rfl) ?_
  refine V_ild1 dX2_make_4 ?_
  refine V_ild2 dX2_make_5 ?_
  refine V_iasr dX2_make_6 (hS.r1.1 2 (1, 8) rfl) (by omega) (by decide) ?_
  refine V_ald0 dX2_make_7 ?_
  refine V_getR dX2_make_8 flX2_18 (hS.r1.1 0 (0, 2) rfl) (hS.r1.2 2 (1, 3) rfl) ?_
  refine V_ild1 dX2_make_11 ?_
  refine V_ild3 dX2_make_12 ?_
  refine V_iasr dX2_make_13 (hS.r1.1 3 (1, 8) rfl) (by omega) (by decide) ?_
  refine V_ald0 dX2_make_14 ?_
  refine V_getR dX2_make_15 flX2_11 (hS.r1.1 0 (0, 2) rfl) (hS.r1.2 0 (1, 1) rfl) ?_
  refine V_ild1 dX2_make_18 ?_
  refine V_gaN dX2_make_19 (hS.r1.1 1 (3, 8) rfl) (by omega) (by decide) (hS.it hj) ?_
  refine V_iconst (v := nI 0) dX2_make_20 (by decide) ?_
  refine V_is2 dX2_make_21 wlX2_21 mdJ7_fill_53178 msJ7_fill_53178 rfl rfl (kJ7_fillr (hS.iy hj) (by decide) ⟨rfl, ?_⟩)
  refine V_return dX2_make_24 rfl ?_
  exact hQ
def cCut (l v : Int32) : Int32 := if nI 1 ≤ l then (if nI 2 ≤ l then v else v.toInt16.toInt32) else v.toInt8.toInt32
theorem kX2_put (hS : xSt Y G) {j : Nat} (hj : j < 8) {i : Nat} (hi : i < 40) {v : Int32} (hQ : Q (some (xI (cCut (R 2 j) v))) Y G (va_up N 1 (va_up R (10 + j) (upd (R (10 + j)) i (cCut (R 2 j) v))))) : V RX2 false cX2_put 5 (some .int) none d b 0 [some (xR 1 0), some (xI (nI j)), some (xI (nI i)), some (xI v), none] [] Y G (va_up N 1 R) Q := by
  refine V_ild3 dX2_put_0 ?_
  refine V_ist4 dX2_put_1 rfl ?_
  refine V_ald0 dX2_put_3 ?_
  refine V_getR dX2_put_4 flX2_14 (hS.r1.1 0 (0, 2) rfl) (hS.r1.2 1 (1, 2) rfl) ?_
  refine V_ild1 dX2_put_7 ?_
  refine V_iar dX2_put_8 (hS.r1.1 2 (1, 8) rfl) (by omega) (by decide) ?_
  refine V_iconst (v := nI 1) dX2_put_9 (by decide) ?_
  refine V_icmpge (tgt := 20) dX2_put_10 (by decide) (fun c10 => ?_) (fun c10 => ?_)
  · skip
    refine V_ald0 dX2_put_20 ?_
    refine V_getR dX2_put_21 flX2_14 (hS.r1.1 0 (0, 2) rfl) (hS.r1.2 1 (1, 2) rfl) ?_
    refine V_ild1 dX2_put_24 ?_
    refine V_iar dX2_put_25 (hS.r1.1 2 (1, 8) rfl) (by omega) (by decide) ?_
    refine V_iconst (v := nI 2) dX2_put_26 (by decide) ?_
    refine V_icmpge (tgt := 34) dX2_put_27 (by decide) (fun c27 => ?_) (fun c27 => ?_)
    · skip
      refine V_ald0 dX2_put_34 ?_
      refine V_getR dX2_put_35 flX2_11 (hS.r1.1 0 (0, 2) rfl) (hS.r1.2 0 (1, 1) rfl) ?_
      refine V_ild1 dX2_put_38 ?_
      refine V_gaN dX2_put_39 (hS.r1.1 1 (3, 8) rfl) (by omega) (by decide) (hS.it hj) ?_
      refine V_ild2 dX2_put_40 ?_
      refine V_ild4 dX2_put_41 ?_
      refine V_iasr dX2_put_43 (hS.iy hj) hi (by decide) ?_
      refine V_ild4 dX2_put_44 ?_
      refine V_ireturn dX2_put_46 ⟨_, rfl, vp_nar_int _⟩ ?_
      rw [cCut, if_pos c10, if_pos c27] at hQ
      exact hQ
    · skip
      refine V_ild3 dX2_put_30 ?_
      refine V_i2s dX2_put_31 ?_
      refine V_ist4 dX2_put_32 rfl ?_
      refine V_ald0 dX2_put_34 ?_
      refine V_getR dX2_put_35 flX2_11 (hS.r1.1 0 (0, 2) rfl) (hS.r1.2 0 (1, 1) rfl) ?_
      refine V_ild1 dX2_put_38 ?_
      refine V_gaN dX2_put_39 (hS.r1.1 1 (3, 8) rfl) (by omega) (by decide) (hS.it hj) ?_
      refine V_ild2 dX2_put_40 ?_
      refine V_ild4 dX2_put_41 ?_
      refine V_iasr dX2_put_43 (hS.iy hj) hi (by decide) ?_
      refine V_ild4 dX2_put_44 ?_
      refine V_ireturn dX2_put_46 ⟨_, rfl, vp_nar_int _⟩ ?_
      rw [cCut, if_pos c10, if_neg c27] at hQ
      exact hQ
  · skip
    refine V_ild3 dX2_put_13 ?_
    refine V_i2b dX2_put_14 ?_
    refine V_ist4 dX2_put_15 rfl ?_
    refine V_goto (tgt := 34) dX2_put_17 (by decide) ?_
    refine V_ald0 dX2_put_34 ?_
    refine V_getR dX2_put_35 flX2_11 (hS.r1.1 0 (0, 2) rfl) (hS.r1.2 0 (1, 1) rfl) ?_
    refine V_ild1 dX2_put_38 ?_
    refine V_gaN dX2_put_39 (hS.r1.1 1 (3, 8) rfl) (by omega) (by decide) (hS.it hj) ?_
    refine V_ild2 dX2_put_40 ?_
    refine V_ild4 dX2_put_41 ?_
    refine V_iasr dX2_put_43 (hS.iy hj) hi (by decide) ?_
    refine V_ild4 dX2_put_44 ?_
    refine V_ireturn dX2_put_46 ⟨_, rfl, vp_nar_int _⟩ ?_
    rw [cCut, if_neg c10] at hQ
    exact hQ
theorem kX2_move (hS : xSt Y G) {a c i k n : Nat} (ha : a < 8) (hc : c < 8) (hi : i + n ≤ 40) (hk : k + n ≤ 40) (hQ : Q none Y G (va_up N 1 (va_up R (10 + c) (va_cpy (R (10 + a)) (R (10 + c)) i k n)))) : V RX2 false cX2_move 6 none none (d + 1) b 0 [some (xR 1 0), some (xI (nI a)), some (xI (nI i)), some (xI (nI c)), some (xI (nI k)), some (xI (nI n))] [] Y G (va_up N 1 R) Q := by
  refine V_ald0 dX2_move_0 ?_
  refine V_getR dX2_move_1 flX2_11 (hS.r1.1 0 (0, 2) rfl) (hS.r1.2 0 (1, 1) rfl) ?_
  refine V_ild1 dX2_move_4 ?_
  refine V_gaN dX2_move_5 (hS.r1.1 1 (3, 8) rfl) (by omega) (by decide) (hS.it ha) ?_
  refine V_ild2 dX2_move_6 ?_
  refine V_ald0 dX2_move_7 ?_
  refine V_getR dX2_move_8 flX2_11 (hS.r1.1 0 (0, 2) rfl) (hS.r1.2 0 (1, 1) rfl) ?_
  refine V_ild3 dX2_move_11 ?_
  refine V_gaN dX2_move_12 (hS.r1.1 1 (3, 8) rfl) (by omega) (by decide) (hS.it hc) ?_
  refine V_ild4 dX2_move_13 ?_
  refine V_ild5 dX2_move_15 ?_
  refine V_acopy dX2_move_17 wlX2_27 (hS.iy ha) (hS.iy hc) (nI_pos (by omega)) (nI_pos (by omega)) (nI_pos (by omega)) (by rw [nI_clamp (by omega), nI_clamp (by omega)]; exact hi) (by rw [nI_clamp (by omega), nI_clamp (by omega)]; exact hk) (Nat.le_of_ble_eq_true rfl) ?_
  rw [nI_clamp (by omega), nI_clamp (by omega), nI_clamp (by omega), xp_up, va_up_eq]
  refine V_return dX2_move_20 rfl ?_
  exact hQ
theorem kX2_remove (hS : xSt Y G) {j : Nat} (hj : j < 8) (hQ : Q (some (xI (R 3 j))) Y G (va_up N 1 (va_up R 3 (upd (R 3) j (-1))))) : V RX2 false cX2_remove 3 (some .int) none d b 0 [some (xR 1 0), some (xI (nI j)), none] [] Y G (va_up N 1 R) Q := by
  refine V_ald0 dX2_remove_0 ?_
  refine V_getR dX2_remove_1 flX2_18 (hS.r1.1 0 (0, 2) rfl) (hS.r1.2 2 (1, 3) rfl) ?_
  refine V_ild1 dX2_remove_4 ?_
  refine V_iar dX2_remove_5 (hS.r1.1 3 (1, 8) rfl) (by omega) (by decide) ?_
  refine V_ist2 dX2_remove_6 rfl ?_
  refine V_ald0 dX2_remove_7 ?_
  refine V_getR dX2_remove_8 flX2_18 (hS.r1.1 0 (0, 2) rfl) (hS.r1.2 2 (1, 3) rfl) ?_
  refine V_ild1 dX2_remove_11 ?_
  refine V_iconst (v := (-1)) dX2_remove_12 (by decide) ?_
  refine V_iasr dX2_remove_13 (hS.r1.1 3 (1, 8) rfl) (by omega) (by decide) ?_
  refine V_ild2 dX2_remove_14 ?_
  refine V_ireturn dX2_remove_15 ⟨_, rfl, vp_nar_int _⟩ ?_
  exact hQ
def cPres (R : xT) : Nat → Int32
  | 0 => nI 0
  | i + 1 => if R 3 i = -1 then cPres R i else cPres R i + 1
theorem kX2_present (hS : xSt Y G) (hQ : Q (some (xI (cPres R 8))) Y G (va_up N 1 R)) : V RX2 false cX2_present 3 (some .int) none (d + 1) b 0 [some (xR 1 0), none, none] [] Y G (va_up N 1 R) Q := by
  refine V_iconst (v := nI 0) dX2_present_0 (by decide) ?_
  refine V_ist1 dX2_present_1 rfl ?_
  refine V_iconst (v := nI 0) dX2_present_2 (by decide) ?_
  refine V_ist2 dX2_present_3 rfl ?_
  refine xDown (P := fun i => V RX2 false cX2_present 3 (some .int) none (d + 1) b 4 [some (xR 1 0), some (xI (cPres R i)), some (xI (nI i))] [] Y G (va_up N 1 R) Q) 8 ?_ 0 (Nat.zero_le _)
  intro i hii hni
  refine V_ild2 dX2_present_4 ?_
  refine V_bipush (v := nI 8) dX2_present_5 (by decide) ?_
  refine V_icmpgeN (tgt := 27) dX2_present_7 (by decide) (by omega) (by omega) (fun c7 => ?_) (fun c7 => ?_)
  · skip
    refine V_ild1 dX2_present_27 ?_
    refine V_ireturn dX2_present_28 ⟨_, rfl, vp_nar_int _⟩ ?_
    rw [show (8 : Nat) = i by omega] at hQ
    exact hQ
  · skip
    refine V_ald0 dX2_present_10 ?_
    refine V_ild2 dX2_present_11 ?_
    refine V_iv1 dX2_present_12 wlX2_33 mdX2_isMissing miX2_isMissing rfl (hS.r1.1 0 (0, 2) rfl) rfl rfl (kX2_isMissing hS (by omega) ⟨rfl, ?_⟩)
    refine V_ifneB (tgt := 21) dX2_present_15 (by decide) (fun c15 => ?_) (fun c15 => ?_)
    · skip
      refine V_incN2 dX2_present_21 rfl ?_
      refine V_goto (tgt := 4) dX2_present_24 (by decide) ?_
      have hni := hni (by omega)
      rw [cPres, if_pos c15] at hni
      exact hni
    · skip
      refine V_inc1 dX2_present_18 rfl rfl ?_
      refine V_incN2 dX2_present_21 rfl ?_
      refine V_goto (tgt := 4) dX2_present_24 (by decide) ?_
      have hni := hni (by omega)
      rw [cPres, if_neg c15] at hni
      exact hni
end KC
