section KC
variable {d : Nat} {b : Nat × Nat} {Y : xY} {G : xG} {N : xM} {R U A S T : xT} {Q : Option xAV → xY → xG → xM → Prop}
theorem va_ins {N : xM} {r : Nat} {A : xT} (h : N r = A) : N = va_up N r A := by rw [← h, va_up_id]
def cAdd (U : xT) (n : Nat) (v : Int32) : xT := va_up (va_up U 1 (upd (U 1) n v)) 0 (upd (va_up U 1 (upd (U 1) n v) 0) 1 (nI (n + 1)))
theorem kX4_add (hS : xSt Y G) {n : Nat} (hn : U 0 1 = nI n) (hn2 : n ≤ 110) {v : Int32} (hQ : Q (some (xI (if n < 110 then 1 else 0))) Y G (va_up N 2 (if n < 110 then cAdd U n v else U))) : V RX4 false cX4_add 2 (some .boolean) none d b 0 [some (xR 2 0), some (xI v)] [] Y G (va_up N 2 U) Q := by
  refine V_ald0 dX4_add_0 ?_
  refine V_getIr dX4_add_1 flX4_15 (hS.r2.1 0 (0, 4) rfl) ?_
  refine V_eqI hn ?_
  refine V_bipush (v := nI 110) dX4_add_4 (by decide) ?_
  refine V_icmpltN (tgt := 11) dX4_add_6 (by decide) (by omega) (by omega) (fun c6 => ?_) (fun c6 => ?_)
  · skip
    refine V_ald0 dX4_add_11 ?_
    refine V_getR dX4_add_12 flX4_11 (hS.r2.1 0 (0, 4) rfl) (hS.r2.2 0 (2, 1) rfl) ?_
    refine V_ald0 dX4_add_15 ?_
    refine V_getIr dX4_add_16 flX4_15 (hS.r2.1 0 (0, 4) rfl) ?_
    refine V_eqI hn ?_
    refine V_ild1 dX4_add_19 ?_
    refine V_iasr dX4_add_20 (hS.r2.1 1 (1, 110) rfl) (by omega) (by decide) ?_
    refine V_ald0 dX4_add_21 ?_
    refine V_dupR dX4_add_22 ?_
    refine V_getIr dX4_add_23 flX4_15 (hS.r2.1 0 (0, 4) rfl) ?_
    refine V_eqI hn ?_
    refine V_iconst (v := nI 1) dX4_add_26 (by decide) ?_
    refine V_iaddN dX4_add_27 ?_
    refine V_putIr dX4_add_28 fwX4_15 (hS.r2.1 0 (0, 4) rfl) ?_
    refine V_iconst (v := 1) dX4_add_31 (by decide) ?_
    refine V_ireturn dX4_add_32 ⟨_, rfl, xbool (by first | exact Or.inl rfl | exact Or.inr rfl | exact xite01 _)⟩ ?_
    rw [if_pos c6, if_pos c6] at hQ
    exact hQ
  · skip
    refine V_iconst (v := 0) dX4_add_9 (by decide) ?_
    refine V_ireturn dX4_add_10 ⟨_, rfl, xbool (by first | exact Or.inl rfl | exact Or.inr rfl | exact xite01 _)⟩ ?_
    rw [if_neg c6, if_neg c6] at hQ
    exact hQ
theorem kX4_length (hS : xSt Y G) (hQ : Q (some (xI (U 0 1))) Y G (va_up N 2 U)) : V RX4 false cX4_length 1 (some .int) none d b 0 [some (xR 2 0)] [] Y G (va_up N 2 U) Q := by
  refine V_ald0 dX4_length_0 ?_
  refine V_getIr dX4_length_1 flX4_15 (hS.r2.1 0 (0, 4) rfl) ?_
  refine V_ireturn dX4_length_4 ⟨_, rfl, vp_nar_int _⟩ ?_
  exact hQ
theorem kX4_faultNumber (hS : xSt Y G) (hQ : Q (some (xI (U 0 4))) Y G (va_up N 2 U)) : V RX4 false cX4_faultNumber 1 (some .int) none d b 0 [some (xR 2 0)] [] Y G (va_up N 2 U) Q := by
  refine V_ald0 dX4_faultNumber_0 ?_
  refine V_getIr dX4_faultNumber_1 flX4_25 (hS.r2.1 0 (0, 4) rfl) ?_
  refine V_ireturn dX4_faultNumber_4 ⟨_, rfl, vp_nar_int _⟩ ?_
  exact hQ
theorem kX4_faultPlace (hS : xSt Y G) (hQ : Q (some (xI (U 0 2))) Y G (va_up N 2 U)) : V RX4 false cX4_faultPlace 1 (some .int) none d b 0 [some (xR 2 0)] [] Y G (va_up N 2 U) Q := by
  refine V_ald0 dX4_faultPlace_0 ?_
  refine V_getIr dX4_faultPlace_1 flX4_19 (hS.r2.1 0 (0, 4) rfl) ?_
  refine V_ireturn dX4_faultPlace_4 ⟨_, rfl, vp_nar_int _⟩ ?_
  exact hQ
theorem kX4_clear (hS : xSt Y G) (hQ : Q none Y G (va_up N 2 (va_up U 0 (upd (U 0) 1 (nI 0))))) : V RX4 false cX4_clear 1 none none d b 0 [some (xR 2 0)] [] Y G (va_up N 2 U) Q := by
  refine V_ald0 dX4_clear_0 ?_
  refine V_iconst (v := nI 0) dX4_clear_1 (by decide) ?_
  refine V_putIr dX4_clear_2 fwX4_15 (hS.r2.1 0 (0, 4) rfl) ?_
  refine V_return dX4_clear_5 rfl ?_
  exact hQ
theorem kX0_kept (hS : xSt Y G) (hQ : Q (some (xI (A 0 2))) Y G (va_up N 5 A)) : V RX0 false cX0_kept 1 (some .int) none d b 0 [some (xR 5 0)] [] Y G (va_up N 5 A) Q := by
  refine V_ald0 dX0_kept_0 ?_
  refine V_getIr dX0_kept_1 flX0_19 (hS.r5.1 0 (0, 0) rfl) ?_
  refine V_ireturn dX0_kept_4 ⟨_, rfl, vp_nar_int _⟩ ?_
  exact hQ
theorem kX0_forget (hS : xSt Y G) (hQ : Q none Y G (va_up N 5 (va_up A 0 (upd (A 0) 2 (nI 0))))) : V RX0 false cX0_forget 1 none none d b 0 [some (xR 5 0)] [] Y G (va_up N 5 A) Q := by
  refine V_ald0 dX0_forget_0 ?_
  refine V_iconst (v := nI 0) dX0_forget_1 (by decide) ?_
  refine V_putIr dX0_forget_2 fwX0_19 (hS.r5.1 0 (0, 0) rfl) ?_
  refine V_return dX0_forget_5 rfl ?_
  exact hQ
def cK1 (A : xT) (nx : Nat) : xT := va_up A 0 (upd (A 0) 1 (nI ((nx + 1) % 24)))
def cKeep (A : xT) (nx mn : Nat) : xT := va_up (cK1 A nx) 0 (upd (cK1 A nx 0) 2 (if nI (mn + 1) < nI 24 then nI (mn + 1) else nI 24))
def cBk1 (A : xT) (mn : Nat) : xT := va_up A 0 (upd (A 0) 2 (nI (mn - 1)))
def cBack (A : xT) (nx mn : Nat) : xT := va_up (cBk1 A mn) 0 (upd (cBk1 A mn 0) 1 (nI ((nx + 23) % 24)))
theorem kX0_keep (hS : xSt Y G) {nx mn t : Nat} (hA : N 5 = A) (hnx : A 0 1 = nI nx) (hn : nx < 24) (hmn : A 0 2 = nI mn) (hm : mn ≤ 24) (hT : xTr Y G t) (ht : t ≠ 6 + nx) (hQ : Q none Y G (va_up (va_up N (6 + nx) (tLike (N (6 + nx)) (N t))) 5 (cKeep A nx mn))) : V RX0 false cX0_keep 2 none none (d + 2) b 0 [some (xR 5 0), some (xR t 0)] [] Y G N Q := by
  have hnx0 : N 5 0 1 = nI nx := by rw [hA]; exact hnx
  refine V_ald0 dX0_keep_0 ?_
  refine V_getR dX0_keep_1 flX0_11 (hS.r5.1 0 (0, 0) rfl) (hS.r5.2 0 (5, 1) rfl) ?_
  refine V_ald0 dX0_keep_4 ?_
  refine V_getI dX0_keep_5 flX0_15 (hS.r5.1 0 (0, 0) rfl) ?_
  refine V_eqI hnx0 ?_
  refine V_aaN dX0_keep_8 (hS.r5.1 1 (2, 24) rfl) (by omega) (by decide) (hS.ac hn) ?_
  refine V_ald1 dX0_keep_9 ?_
  refine V_reg (6 + nx) ?_
  refine V_iv1 dX0_keep_10 wlX0_23 mdX5_becomeLike miX5_becomeLike rfl ((hS.at hn).1 0 (0, 5) rfl) rfl rfl (kX5_becomeLike (hS.at hn) hT ht rfl ⟨rfl, ?_⟩)
  refine V_eqN (N' := va_up (va_up N (6 + nx) (tLike (N (6 + nx)) (N t))) 5 A) (va_ins (by rw [va_up_no _ _ (by omega)]; exact hA)) ?_
  refine V_ald0 dX0_keep_13 ?_
  refine V_ald0 dX0_keep_14 ?_
  refine V_getIr dX0_keep_15 flX0_15 (hS.r5.1 0 (0, 0) rfl) ?_
  refine V_eqI hnx ?_
  refine V_iconst (v := nI 1) dX0_keep_18 (by decide) ?_
  refine V_iaddN dX0_keep_19 ?_
  refine V_bipush (v := nI 24) dX0_keep_20 (by decide) ?_
  refine V_irem dX0_keep_22 (by decide) ?_
  refine V_eqI (pk_rem (by omega) (by decide) (by decide)) ?_
  refine V_putIr dX0_keep_23 fwX0_15 (hS.r5.1 0 (0, 0) rfl) ?_
  refine V_ald0 dX0_keep_26 ?_
  refine V_bipush (v := nI 24) dX0_keep_27 (by decide) ?_
  refine V_ald0 dX0_keep_29 ?_
  refine V_getIr dX0_keep_30 flX0_19 (hS.r5.1 0 (0, 0) rfl) ?_
  refine V_eqI (show cK1 A nx 0 2 = nI mn from hmn) ?_
  refine V_iconst (v := nI 1) dX0_keep_33 (by decide) ?_
  refine V_iaddN dX0_keep_34 ?_
  refine V_mmin dX0_keep_35 wlX0_27 rfl ?_
  refine V_putIr dX0_keep_38 fwX0_19 (hS.r5.1 0 (0, 0) rfl) ?_
  refine V_return dX0_keep_41 rfl ?_
  exact hQ
theorem kX0_takeBack (hS : xSt Y G) {nx mn t : Nat} (hnx : A 0 1 = nI nx) (hn : nx < 24) (hmn : A 0 2 = nI mn) (hm : mn ≤ 24) (hT : xTr Y G t) (ht : t < 6) (ht5 : t ≠ 5) (hQ0 : mn = 0 → Q (some (xI 0)) Y G (va_up N 5 A)) (hQ1 : mn ≠ 0 → Q (some (xI 1)) Y G (va_up (va_up N 5 (cBack A nx mn)) t (tLike (N t) (N (6 + (nx + 23) % 24))))) : V RX0 false cX0_takeBack 2 (some .boolean) none (d + 2) b 0 [some (xR 5 0), some (xR t 0)] [] Y G (va_up N 5 A) Q := by
  have hn3 : (nx + 23) % 24 < 24 := Nat.mod_lt _ (by decide)
  refine V_ald0 dX0_takeBack_0 ?_
  refine V_getIr dX0_takeBack_1 flX0_19 (hS.r5.1 0 (0, 0) rfl) ?_
  refine V_eqI hmn ?_
  refine V_ifne (tgt := 9) dX0_takeBack_4 (by decide) (fun c4 => ?_) (fun c4 => ?_)
  · skip
    have c4 : mn ≠ 0 := fun e => c4 (by rw [e]; rfl)
    refine V_ald0 dX0_takeBack_9 ?_
    refine V_dupR dX0_takeBack_10 ?_
    refine V_getIr dX0_takeBack_11 flX0_19 (hS.r5.1 0 (0, 0) rfl) ?_
    refine V_eqI hmn ?_
    refine V_iconst (v := nI 1) dX0_takeBack_14 (by decide) ?_
    refine V_isubN (by omega) dX0_takeBack_15 ?_
    refine V_putIr dX0_takeBack_16 fwX0_19 (hS.r5.1 0 (0, 0) rfl) ?_
    refine V_ald0 dX0_takeBack_19 ?_
    refine V_ald0 dX0_takeBack_20 ?_
    refine V_getIr dX0_takeBack_21 flX0_15 (hS.r5.1 0 (0, 0) rfl) ?_
    refine V_eqI (show cBk1 A mn 0 1 = nI nx from hnx) ?_
    refine V_bipush (v := nI 24) dX0_takeBack_24 (by decide) ?_
    refine V_iaddN dX0_takeBack_26 ?_
    refine V_iconst (v := nI 1) dX0_takeBack_27 (by decide) ?_
    refine V_isubN (by omega) dX0_takeBack_28 ?_
    refine V_bipush (v := nI 24) dX0_takeBack_29 (by decide) ?_
    refine V_irem dX0_takeBack_31 (by decide) ?_
    refine V_eqI (pk_rem (by omega) (by decide) (by decide)) ?_
    rw [show nx + 24 - 1 = nx + 23 by omega]
    refine V_putIr dX0_takeBack_32 fwX0_15 (hS.r5.1 0 (0, 0) rfl) ?_
    refine V_ald1 dX0_takeBack_35 ?_
    refine V_ald0 dX0_takeBack_36 ?_
    refine V_getR dX0_takeBack_37 flX0_11 (hS.r5.1 0 (0, 0) rfl) (hS.r5.2 0 (5, 1) rfl) ?_
    refine V_ald0 dX0_takeBack_40 ?_
    refine V_getIr dX0_takeBack_41 flX0_15 (hS.r5.1 0 (0, 0) rfl) ?_
    refine V_eqI (show cBack A nx mn 0 1 = nI ((nx + 23) % 24) from rfl) ?_
    refine V_aaN dX0_takeBack_44 (hS.r5.1 1 (2, 24) rfl) (by omega) (by decide) (hS.ac hn3) ?_
    show V _ _ _ _ _ _ _ _ _ _ _ _ _ (va_up N 5 (cBack A nx mn)) _
    refine V_reg t ?_
    rw [va_up_no N (cBack A nx mn) (show t ≠ 5 by omega)]
    refine V_iv1 dX0_takeBack_45 wlX0_23 mdX5_becomeLike miX5_becomeLike rfl (hT.1 0 (0, 5) rfl) rfl rfl (kX5_becomeLike hT (hS.at hn3) (by omega) (by rw [va_up_no _ _ (by omega)]) ⟨rfl, ?_⟩)
    refine V_iconst (v := 1) dX0_takeBack_48 (by decide) ?_
    refine V_ireturn dX0_takeBack_49 ⟨_, rfl, xbool (by first | exact Or.inl rfl | exact Or.inr rfl | exact xite01 _)⟩ ?_
    exact hQ1 c4
  · skip
    refine V_iconst (v := 0) dX0_takeBack_7 (by decide) ?_
    refine V_ireturn dX0_takeBack_8 ⟨_, rfl, xbool (by first | exact Or.inl rfl | exact Or.inr rfl | exact xite01 _)⟩ ?_
    exact hQ0 ((nI_eq (by omega) (by decide)).mp c4)
end KC
