section KT
variable {d : Nat} {b : Nat × Nat} {Y : xY} {G : xG} {N : xM} {T : xT} {Q : Option xAV → xY → xG → xM → Prop} {r : Nat}
def jB1 (x : Int32) : Int32 := x - ((x.toUInt32 >>> ((nI 1).toUInt32 &&& Int32.toUInt32 31)).toInt32 &&& 1431655765)
def jB2 (x : Int32) : Int32 := (x &&& 858993459) + ((x.toUInt32 >>> ((nI 2).toUInt32 &&& Int32.toUInt32 31)).toInt32 &&& 858993459)
def jB3 (x : Int32) : Int32 := (x + (x.toUInt32 >>> ((nI 4).toUInt32 &&& Int32.toUInt32 31)).toInt32) &&& 252645135
def jB4 (x : Int32) : Int32 := x + (x.toUInt32 >>> ((nI 8).toUInt32 &&& Int32.toUInt32 31)).toInt32
def jB5 (x : Int32) : Int32 := x + (x.toUInt32 >>> ((nI 16).toUInt32 &&& Int32.toUInt32 31)).toInt32
def jBC (x : Int32) : Int32 := jB5 (jB4 (jB3 (jB2 (jB1 x)))) &&& nI 63
theorem kJ6_bitCount {x : Int32} (hQ : Q (some (xI (jBC x))) Y G N) : V RJ6 false cJ6_bitCount_0f7a4 1 (some .int) none d b 0 [some (xI x)] [] Y G N Q := by
  refine V_ild0 dJ6_bitCount_0f7a4_0 ?_
  refine V_ild0 dJ6_bitCount_0f7a4_1 ?_
  refine V_iconst (v := nI 1) dJ6_bitCount_0f7a4_2 (by decide) ?_
  refine V_iushr dJ6_bitCount_0f7a4_3 ?_
  refine V_ldc_w dJ6_bitCount_0f7a4_4 wkJ6_265 ?_
  refine V_iand dJ6_bitCount_0f7a4_7 ?_
  refine V_isub dJ6_bitCount_0f7a4_8 ?_
  refine V_ist0 dJ6_bitCount_0f7a4_9 ?_
  show V _ _ _ _ _ _ _ _ _ [some (xI (jB1 x))] _ _ _ _ _
  refine V_ild0 dJ6_bitCount_0f7a4_10 ?_
  refine V_ldc_w dJ6_bitCount_0f7a4_11 wkJ6_266 ?_
  refine V_iand dJ6_bitCount_0f7a4_14 ?_
  refine V_ild0 dJ6_bitCount_0f7a4_15 ?_
  refine V_iconst (v := nI 2) dJ6_bitCount_0f7a4_16 (by decide) ?_
  refine V_iushr dJ6_bitCount_0f7a4_17 ?_
  refine V_ldc_w dJ6_bitCount_0f7a4_18 wkJ6_266 ?_
  refine V_iand dJ6_bitCount_0f7a4_21 ?_
  refine V_iadd dJ6_bitCount_0f7a4_22 ?_
  refine V_ist0 dJ6_bitCount_0f7a4_23 ?_
  show V _ _ _ _ _ _ _ _ _ [some (xI (jB2 (jB1 x)))] _ _ _ _ _
  refine V_ild0 dJ6_bitCount_0f7a4_24 ?_
  refine V_ild0 dJ6_bitCount_0f7a4_25 ?_
  refine V_iconst (v := nI 4) dJ6_bitCount_0f7a4_26 (by decide) ?_
  refine V_iushr dJ6_bitCount_0f7a4_27 ?_
  refine V_iadd dJ6_bitCount_0f7a4_28 ?_
  refine V_ldc_w dJ6_bitCount_0f7a4_29 wkJ6_267 ?_
  refine V_iand dJ6_bitCount_0f7a4_32 ?_
  refine V_ist0 dJ6_bitCount_0f7a4_33 ?_
  show V _ _ _ _ _ _ _ _ _ [some (xI (jB3 (jB2 (jB1 x))))] _ _ _ _ _
  refine V_ild0 dJ6_bitCount_0f7a4_34 ?_
  refine V_ild0 dJ6_bitCount_0f7a4_35 ?_
  refine V_bipush (v := nI 8) dJ6_bitCount_0f7a4_36 (by decide) ?_
  refine V_iushr dJ6_bitCount_0f7a4_38 ?_
  refine V_iadd dJ6_bitCount_0f7a4_39 ?_
  refine V_ist0 dJ6_bitCount_0f7a4_40 ?_
  show V _ _ _ _ _ _ _ _ _ [some (xI (jB4 (jB3 (jB2 (jB1 x)))))] _ _ _ _ _
  refine V_ild0 dJ6_bitCount_0f7a4_41 ?_
  refine V_ild0 dJ6_bitCount_0f7a4_42 ?_
  refine V_bipush (v := nI 16) dJ6_bitCount_0f7a4_43 (by decide) ?_
  refine V_iushr dJ6_bitCount_0f7a4_45 ?_
  refine V_iadd dJ6_bitCount_0f7a4_46 ?_
  refine V_ist0 dJ6_bitCount_0f7a4_47 ?_
  show V _ _ _ _ _ _ _ _ _ [some (xI (jB5 (jB4 (jB3 (jB2 (jB1 x))))))] _ _ _ _ _
  refine V_ild0 dJ6_bitCount_0f7a4_48 ?_
  refine V_bipush (v := nI 63) dJ6_bitCount_0f7a4_49 (by decide) ?_
  refine V_iand dJ6_bitCount_0f7a4_51 ?_
  refine V_ireturn dJ6_bitCount_0f7a4_52 ⟨_, rfl, vp_nar_int _⟩ ?_
  exact hQ
def xFill (f : Nat → Int32) (v : Int32) (i : Nat) : Nat → Int32 := fun j => if j < i then v else f j
theorem xFill_0 (f : Nat → Int32) (v : Int32) : xFill f v 0 = f := by funext j; simp [xFill]
theorem xFill_s (f : Nat → Int32) (v : Int32) (i : Nat) : upd (xFill f v i) i v = xFill f v (i + 1) := by
  funext j
  unfold upd xFill
  by_cases h : j = i
  · rw [if_pos h, if_pos (by omega)]
  · rw [if_neg h]
    by_cases h2 : j < i
    · rw [if_pos h2, if_pos (by omega)]
    · rw [if_neg h2, if_neg (by omega)]
theorem xp_id (N : xM) (r c : Nat) : xp N r c (N r c) = N := by unfold xp; rw [va_up_id, va_up_id]
theorem xp_xp (N : xM) (r c : Nat) (f g : Nat → Int32) : xp (xp N r c f) r c g = xp N r c g := by
  unfold xp
  rw [bx_uu, va_up_eq, bx_uu]
theorem kJ7_fill {c n : Nat} (hY : ((r, c), (1, n)) ∈ Y) (hn : n < 2 ^ 31) {v : Int32} (hQ : Q none Y G (xp N r c (xFill (N r c) v n))) : V RJ7 false cJ7_fill_53178 4 none none d b 0 [some (xR r c), some (xI v), none, none] [] Y G N Q := by
  refine V_iconst (v := nI 0) dJ7_fill_53178_0 (by decide) ?_
  refine V_ist2 dJ7_fill_53178_1 rfl ?_
  refine V_ald0 dJ7_fill_53178_2 ?_
  refine V_alen (v := nI n) dJ7_fill_53178_3 hY rfl ?_
  refine V_ist3 dJ7_fill_53178_4 rfl ?_
  refine V_eqN (N' := xp N r c (xFill (N r c) v 0)) (by rw [xFill_0, xp_id]) ?_
  refine xDown (P := fun i => V RJ7 false cJ7_fill_53178 4 none none d b 5 [some (xR r c), some (xI v), some (xI (nI i)), some (xI (nI n))] [] Y G (xp N r c (xFill (N r c) v i)) Q) n ?_ 0 (Nat.zero_le _)
  intro i hii hni
  refine V_ild2 dJ7_fill_53178_5 ?_
  refine V_ild3 dJ7_fill_53178_6 ?_
  refine V_icmpgeN (tgt := 20) dJ7_fill_53178_7 (by decide) (by omega) (by omega) (fun c7 => ?_) (fun c7 => ?_)
  · skip
    refine V_return dJ7_fill_53178_20 rfl ?_
    rw [show n = i by omega] at hQ
    exact hQ
  · skip
    refine V_ald0 dJ7_fill_53178_10 ?_
    refine V_ild2 dJ7_fill_53178_11 ?_
    refine V_ild1 dJ7_fill_53178_12 ?_
    refine V_ias dJ7_fill_53178_13 hY (by omega) hn ?_
    refine V_incN2 dJ7_fill_53178_14 rfl ?_
    refine V_goto (tgt := 5) dJ7_fill_53178_17 (by decide) ?_
    rw [xp_eq, xp_xp, xFill_s]
    exact hni (by omega)
theorem kX5_bitsAt (hT : xTr Y G r) {mb : Nat} (hmb : T 0 2 = nI mb) (hm6 : mb ≤ 6) {v : Int32} (hQ : Q (some (xI (tBits T v v mb))) Y G (va_up N r T)) : V RX5 false cX5_bitsAt 2 (some .int) none (d + 1) b 0 [some (xR r 0), some (xI v)] [] Y G (va_up N r T) Q := by
  refine V_ald0 dX5_bitsAt_0 ?_
  refine V_ild1 dX5_bitsAt_1 ?_
  refine V_ild1 dX5_bitsAt_2 ?_
  refine V_iv2 dX5_bitsAt_3 wlX5_95 mdX5_bitsBetween miX5_bitsBetween rfl (hT.1 0 (0, 5) rfl) rfl rfl (kX5_bitsBetween hT hmb hm6 ⟨rfl, ?_⟩)
  refine V_ireturn dX5_bitsAt_6 ⟨_, rfl, vp_nar_int _⟩ ?_
  exact hQ
theorem kX5_bitsRunning (hT : xTr Y G r) {mb : Nat} (hmb : T 0 2 = nI mb) (hm6 : mb ≤ 6) (hQ : Q (some (xI (tBits T (nI 0) (nI 7) mb))) Y G (va_up N r T)) : V RX5 false cX5_bitsRunning 1 (some .int) none (d + 1) b 0 [some (xR r 0)] [] Y G (va_up N r T) Q := by
  refine V_ald0 dX5_bitsRunning_0 ?_
  refine V_iconst (v := nI 0) dX5_bitsRunning_1 (by decide) ?_
  refine V_bipush (v := nI 7) dX5_bitsRunning_2 (by decide) ?_
  refine V_iv2 dX5_bitsRunning_4 wlX5_95 mdX5_bitsBetween miX5_bitsBetween rfl (hT.1 0 (0, 5) rfl) rfl rfl (kX5_bitsBetween hT hmb hm6 ⟨rfl, ?_⟩)
  refine V_ireturn dX5_bitsRunning_7 ⟨_, rfl, vp_nar_int _⟩ ?_
  exact hQ
theorem kX5_bitsHeld (hT : xTr Y G r) {mb : Nat} (hmb : T 0 2 = nI mb) (hm6 : mb ≤ 6) (hQ : Q (some (xI (tBits T (nI 20) (nI 27) mb))) Y G (va_up N r T)) : V RX5 false cX5_bitsHeld 1 (some .int) none (d + 1) b 0 [some (xR r 0)] [] Y G (va_up N r T) Q := by
  refine V_ald0 dX5_bitsHeld_0 ?_
  refine V_bipush (v := nI 20) dX5_bitsHeld_1 (by decide) ?_
  refine V_bipush (v := nI 27) dX5_bitsHeld_3 (by decide) ?_
  refine V_iv2 dX5_bitsHeld_5 wlX5_95 mdX5_bitsBetween miX5_bitsBetween rfl (hT.1 0 (0, 5) rfl) rfl rfl (kX5_bitsBetween hT hmb hm6 ⟨rfl, ?_⟩)
  refine V_ireturn dX5_bitsHeld_8 ⟨_, rfl, vp_nar_int _⟩ ?_
  exact hQ
def tOut (T : xT) (mb : Nat) : Int32 := (((nI 1 <<< (nI mb &&& 31)) - nI 1) &&& (tBits T (nI 8) (nI 8) mb ^^^ (-1))) &&& (tBits T (nI 9) (nI 9) mb ^^^ (-1))
theorem kX5_bitsOutOfTrays (hT : xTr Y G r) {mb : Nat} (hmb : T 0 2 = nI mb) (hm6 : mb ≤ 6) (hQ : Q (some (xI (tOut T mb))) Y G (va_up N r T)) : V RX5 false cX5_bitsOutOfTrays 1 (some .int) none (d + 2) b 0 [some (xR r 0)] [] Y G (va_up N r T) Q := by
  refine V_iconst (v := nI 1) dX5_bitsOutOfTrays_0 (by decide) ?_
  refine V_ald0 dX5_bitsOutOfTrays_1 ?_
  refine V_getIr dX5_bitsOutOfTrays_2 flX5_18 (hT.1 0 (0, 5) rfl) ?_
  refine V_eqI hmb ?_
  refine V_ishl dX5_bitsOutOfTrays_5 ?_
  refine V_iconst (v := nI 1) dX5_bitsOutOfTrays_6 (by decide) ?_
  refine V_isub dX5_bitsOutOfTrays_7 ?_
  refine V_ald0 dX5_bitsOutOfTrays_8 ?_
  refine V_bipush (v := nI 8) dX5_bitsOutOfTrays_9 (by decide) ?_
  refine V_iv1 dX5_bitsOutOfTrays_11 wlX5_98 mdX5_bitsAt miX5_bitsAt rfl (hT.1 0 (0, 5) rfl) rfl rfl (kX5_bitsAt hT hmb hm6 ⟨rfl, ?_⟩)
  refine V_iconst (v := (-1)) dX5_bitsOutOfTrays_14 (by decide) ?_
  refine V_ixor dX5_bitsOutOfTrays_15 ?_
  refine V_iand dX5_bitsOutOfTrays_16 ?_
  refine V_ald0 dX5_bitsOutOfTrays_17 ?_
  refine V_bipush (v := nI 9) dX5_bitsOutOfTrays_18 (by decide) ?_
  refine V_iv1 dX5_bitsOutOfTrays_20 wlX5_98 mdX5_bitsAt miX5_bitsAt rfl (hT.1 0 (0, 5) rfl) rfl rfl (kX5_bitsAt hT hmb hm6 ⟨rfl, ?_⟩)
  refine V_iconst (v := (-1)) dX5_bitsOutOfTrays_23 (by decide) ?_
  refine V_ixor dX5_bitsOutOfTrays_24 ?_
  refine V_iand dX5_bitsOutOfTrays_25 ?_
  refine V_ireturn dX5_bitsOutOfTrays_26 ⟨_, rfl, vp_nar_int _⟩ ?_
  exact hQ
theorem kX5_manyAt (hT : xTr Y G r) {mb : Nat} (hmb : T 0 2 = nI mb) (hm6 : mb ≤ 6) {v : Int32} (hQ : Q (some (xI (jBC (tBits T v v mb)))) Y G (va_up N r T)) : V RX5 false cX5_manyAt 2 (some .int) none (d + 2) b 0 [some (xR r 0), some (xI v)] [] Y G (va_up N r T) Q := by
  refine V_ald0 dX5_manyAt_0 ?_
  refine V_ild1 dX5_manyAt_1 ?_
  refine V_iv1 dX5_manyAt_2 wlX5_98 mdX5_bitsAt miX5_bitsAt rfl (hT.1 0 (0, 5) rfl) rfl rfl (kX5_bitsAt hT hmb hm6 ⟨rfl, ?_⟩)
  refine V_is1 dX5_manyAt_5 wlX5_102 mdJ6_bitCount_0f7a4 msJ6_bitCount_0f7a4 rfl rfl (kJ6_bitCount ⟨rfl, ?_⟩)
  refine V_ireturn dX5_manyAt_8 ⟨_, rfl, vp_nar_int _⟩ ?_
  exact hQ
def tWt (T : xT) (bits : Int32) : Nat → Int32
  | 0 => nI 0
  | i + 1 => if (bits >>> (nI i &&& 31)) &&& nI 1 = 0 then tWt T bits i else tWt T bits i + T 6 i
def tWent (T : xT) : Nat → Int32
  | 0 => nI 0
  | i + 1 => tWent T i + T 14 i
def tPtd (T : xT) : Nat → Int32
  | 0 => nI 0
  | i + 1 => if T 9 i = nI 1 then tPtd T i ||| (nI 1 <<< (nI i &&& 31)) else if T 9 i = nI 2 then tPtd T i ||| (nI 1 <<< (nI i &&& 31)) else tPtd T i
def tSwAll (T : xT) (bits : Int32) : Nat → xT
  | 0 => T
  | i + 1 => if (bits >>> (nI i &&& 31)) &&& nI 1 = 0 then tSwAll T bits i else tSwing (tSwAll T bits i) i
theorem tSwing_ne (T : xT) (p : Nat) {c : Nat} (h : c ≠ 10) : tSwing T p c = T c := va_up_no _ _ h
theorem tSwAll_ne (T : xT) (bits : Int32) {c : Nat} (h : c ≠ 10) : ∀ n, tSwAll T bits n c = T c
  | 0 => rfl
  | n + 1 => by
    rw [tSwAll]
    split
    · exact tSwAll_ne T bits h n
    · rw [tSwing_ne _ _ h]; exact tSwAll_ne T bits h n
theorem kX5_weightOf (hT : xTr Y G r) {mb : Nat} (hmb : T 0 2 = nI mb) (hm6 : mb ≤ 6) {bits : Int32} (hQ : Q (some (xI (tWt T bits mb))) Y G (va_up N r T)) : V RX5 false cX5_weightOf 4 (some .int) none d b 0 [some (xR r 0), some (xI bits), none, none] [] Y G (va_up N r T) Q := by
  refine V_iconst (v := nI 0) dX5_weightOf_0 (by decide) ?_
  refine V_ist2 dX5_weightOf_1 rfl ?_
  refine V_iconst (v := nI 0) dX5_weightOf_2 (by decide) ?_
  refine V_ist3 dX5_weightOf_3 rfl ?_
  refine xDown (P := fun i => V RX5 false cX5_weightOf 4 (some .int) none d b 4 [some (xR r 0), some (xI bits), some (xI (tWt T bits i)), some (xI (nI i))] [] Y G (va_up N r T) Q) mb ?_ 0 (Nat.zero_le _)
  intro i hii hni
  refine V_ild3 dX5_weightOf_4 ?_
  refine V_ald0 dX5_weightOf_5 ?_
  refine V_getIr dX5_weightOf_6 flX5_18 (hT.1 0 (0, 5) rfl) ?_
  refine V_eqI hmb ?_
  refine V_icmpgeN (tgt := 35) dX5_weightOf_9 (by decide) (by omega) (by omega) (fun c9 => ?_) (fun c9 => ?_)
  · skip
    refine V_ild2 dX5_weightOf_35 ?_
    refine V_ireturn dX5_weightOf_36 ⟨_, rfl, vp_nar_int _⟩ ?_
    rw [show mb = i by omega] at hQ
    exact hQ
  · skip
    refine V_ild1 dX5_weightOf_12 ?_
    refine V_ild3 dX5_weightOf_13 ?_
    refine V_ishr dX5_weightOf_14 ?_
    refine V_iconst (v := nI 1) dX5_weightOf_15 (by decide) ?_
    refine V_iand dX5_weightOf_16 ?_
    refine V_ifeq (tgt := 29) dX5_weightOf_17 (by decide) (fun c17 => ?_) (fun c17 => ?_)
    · skip
      refine V_incN3 dX5_weightOf_29 rfl ?_
      refine V_goto (tgt := 4) dX5_weightOf_32 (by decide) ?_
      have hni := hni (by omega)
      rw [tWt, if_pos c17] at hni
      exact hni
    · skip
      refine V_ild2 dX5_weightOf_20 ?_
      refine V_ald0 dX5_weightOf_21 ?_
      refine V_getR dX5_weightOf_22 flX5_27 (hT.1 0 (0, 5) rfl) (show G r 0 5 = some (r, 6) from hT.2 5 (by decide) (by decide)) ?_
      refine V_ild3 dX5_weightOf_25 ?_
      refine V_iar dX5_weightOf_26 (hT.1 6 (1, 6) rfl) (by omega) (by decide) ?_
      refine V_iadd dX5_weightOf_27 ?_
      refine V_ist2 dX5_weightOf_28 rfl ?_
      refine V_incN3 dX5_weightOf_29 rfl ?_
      refine V_goto (tgt := 4) dX5_weightOf_32 (by decide) ?_
      have hni := hni (by omega)
      rw [tWt, if_neg c17] at hni
      exact hni
theorem kX5_wentOfAll (hT : xTr Y G r) {pn : Nat} (hpn : T 0 3 = nI pn) (hp8 : pn ≤ 8) (hQ : Q (some (xI (tWent T pn))) Y G (va_up N r T)) : V RX5 false cX5_wentOfAll 3 (some .int) none d b 0 [some (xR r 0), none, none] [] Y G (va_up N r T) Q := by
  refine V_iconst (v := nI 0) dX5_wentOfAll_0 (by decide) ?_
  refine V_ist1 dX5_wentOfAll_1 rfl ?_
  refine V_iconst (v := nI 0) dX5_wentOfAll_2 (by decide) ?_
  refine V_ist2 dX5_wentOfAll_3 rfl ?_
  refine xDown (P := fun i => V RX5 false cX5_wentOfAll 3 (some .int) none d b 4 [some (xR r 0), some (xI (tWent T i)), some (xI (nI i))] [] Y G (va_up N r T) Q) pn ?_ 0 (Nat.zero_le _)
  intro i hii hni
  refine V_ild2 dX5_wentOfAll_4 ?_
  refine V_ald0 dX5_wentOfAll_5 ?_
  refine V_getIr dX5_wentOfAll_6 flX5_21 (hT.1 0 (0, 5) rfl) ?_
  refine V_eqI hpn ?_
  refine V_icmpgeN (tgt := 27) dX5_wentOfAll_9 (by decide) (by omega) (by omega) (fun c9 => ?_) (fun c9 => ?_)
  · skip
    refine V_ild1 dX5_wentOfAll_27 ?_
    refine V_ireturn dX5_wentOfAll_28 ⟨_, rfl, vp_nar_int _⟩ ?_
    rw [show pn = i by omega] at hQ
    exact hQ
  · skip
    refine V_ild1 dX5_wentOfAll_12 ?_
    refine V_ald0 dX5_wentOfAll_13 ?_
    refine V_getR dX5_wentOfAll_14 flX5_52 (hT.1 0 (0, 5) rfl) (show G r 0 13 = some (r, 14) from hT.2 13 (by decide) (by decide)) ?_
    refine V_ild2 dX5_wentOfAll_17 ?_
    refine V_iar dX5_wentOfAll_18 (hT.1 14 (1, 8) rfl) (by omega) (by decide) ?_
    refine V_iadd dX5_wentOfAll_19 ?_
    refine V_ist1 dX5_wentOfAll_20 rfl ?_
    refine V_incN2 dX5_wentOfAll_21 rfl ?_
    refine V_goto (tgt := 4) dX5_wentOfAll_24 (by decide) ?_
    have hni := hni (by omega)
    rw [tWent] at hni
    exact hni
theorem kX5_bitsPointed (hT : xTr Y G r) {pn : Nat} (hpn : T 0 3 = nI pn) (hp8 : pn ≤ 8) (hQ : Q (some (xI (tPtd T pn))) Y G (va_up N r T)) : V RX5 false cX5_bitsPointed 3 (some .int) none d b 0 [some (xR r 0), none, none] [] Y G (va_up N r T) Q := by
  refine V_iconst (v := nI 0) dX5_bitsPointed_0 (by decide) ?_
  refine V_ist1 dX5_bitsPointed_1 rfl ?_
  refine V_iconst (v := nI 0) dX5_bitsPointed_2 (by decide) ?_
  refine V_ist2 dX5_bitsPointed_3 rfl ?_
  refine xDown (P := fun i => V RX5 false cX5_bitsPointed 3 (some .int) none d b 4 [some (xR r 0), some (xI (tPtd T i)), some (xI (nI i))] [] Y G (va_up N r T) Q) pn ?_ 0 (Nat.zero_le _)
  intro i hii hni
  refine V_ild2 dX5_bitsPointed_4 ?_
  refine V_ald0 dX5_bitsPointed_5 ?_
  refine V_getIr dX5_bitsPointed_6 flX5_21 (hT.1 0 (0, 5) rfl) ?_
  refine V_eqI hpn ?_
  refine V_icmpgeN (tgt := 44) dX5_bitsPointed_9 (by decide) (by omega) (by omega) (fun c9 => ?_) (fun c9 => ?_)
  · skip
    refine V_ild1 dX5_bitsPointed_44 ?_
    refine V_ireturn dX5_bitsPointed_45 ⟨_, rfl, vp_nar_int _⟩ ?_
    rw [show pn = i by omega] at hQ
    exact hQ
  · skip
    refine V_ald0 dX5_bitsPointed_12 ?_
    refine V_getR dX5_bitsPointed_13 flX5_37 (hT.1 0 (0, 5) rfl) (show G r 0 8 = some (r, 9) from hT.2 8 (by decide) (by decide)) ?_
    refine V_ild2 dX5_bitsPointed_16 ?_
    refine V_iar dX5_bitsPointed_17 (hT.1 9 (1, 8) rfl) (by omega) (by decide) ?_
    refine V_iconst (v := nI 1) dX5_bitsPointed_18 (by decide) ?_
    refine V_icmpeq (tgt := 32) dX5_bitsPointed_19 (by decide) (fun c19 => ?_) (fun c19 => ?_)
    · skip
      refine V_ild1 dX5_bitsPointed_32 ?_
      refine V_iconst (v := nI 1) dX5_bitsPointed_33 (by decide) ?_
      refine V_ild2 dX5_bitsPointed_34 ?_
      refine V_ishl dX5_bitsPointed_35 ?_
      refine V_ior dX5_bitsPointed_36 ?_
      refine V_ist1 dX5_bitsPointed_37 rfl ?_
      refine V_incN2 dX5_bitsPointed_38 rfl ?_
      refine V_goto (tgt := 4) dX5_bitsPointed_41 (by decide) ?_
      have hni := hni (by omega)
      rw [tPtd, if_pos c19] at hni
      exact hni
    · skip
      refine V_ald0 dX5_bitsPointed_22 ?_
      refine V_getR dX5_bitsPointed_23 flX5_37 (hT.1 0 (0, 5) rfl) (show G r 0 8 = some (r, 9) from hT.2 8 (by decide) (by decide)) ?_
      refine V_ild2 dX5_bitsPointed_26 ?_
      refine V_iar dX5_bitsPointed_27 (hT.1 9 (1, 8) rfl) (by omega) (by decide) ?_
      refine V_iconst (v := nI 2) dX5_bitsPointed_28 (by decide) ?_
      refine V_icmpne (tgt := 38) dX5_bitsPointed_29 (by decide) (fun c29 => ?_) (fun c29 => ?_)
      · skip
        refine V_incN2 dX5_bitsPointed_38 rfl ?_
        refine V_goto (tgt := 4) dX5_bitsPointed_41 (by decide) ?_
        have hni := hni (by omega)
        rw [tPtd, if_neg c19, if_neg c29] at hni
        exact hni
      · skip
        refine V_ild1 dX5_bitsPointed_32 ?_
        refine V_iconst (v := nI 1) dX5_bitsPointed_33 (by decide) ?_
        refine V_ild2 dX5_bitsPointed_34 ?_
        refine V_ishl dX5_bitsPointed_35 ?_
        refine V_ior dX5_bitsPointed_36 ?_
        refine V_ist1 dX5_bitsPointed_37 rfl ?_
        refine V_incN2 dX5_bitsPointed_38 rfl ?_
        refine V_goto (tgt := 4) dX5_bitsPointed_41 (by decide) ?_
        have hni := hni (by omega)
        rw [tPtd, if_neg c19, if_pos c29] at hni
        exact hni
theorem kX5_swingAll (hT : xTr Y G r) {pn : Nat} (hpn : T 0 3 = nI pn) (hp8 : pn ≤ 8) {bits : Int32} (hQ : Q none Y G (va_up N r (tSwAll T bits pn))) : V RX5 false cX5_swingAll 3 none none (d + 1) b 0 [some (xR r 0), some (xI bits), none] [] Y G (va_up N r T) Q := by
  refine V_iconst (v := nI 0) dX5_swingAll_0 (by decide) ?_
  refine V_ist2 dX5_swingAll_1 rfl ?_
  refine xDown (P := fun i => V RX5 false cX5_swingAll 3 none none (d + 1) b 2 [some (xR r 0), some (xI bits), some (xI (nI i))] [] Y G (va_up N r (tSwAll T bits i)) Q) pn ?_ 0 (Nat.zero_le _)
  intro i hii hni
  refine V_ild2 dX5_swingAll_2 ?_
  refine V_ald0 dX5_swingAll_3 ?_
  refine V_getIr dX5_swingAll_4 flX5_21 (hT.1 0 (0, 5) rfl) ?_
  refine V_eqI (show tSwAll T bits i 0 3 = nI pn by rw [tSwAll_ne _ _ (by decide)]; exact hpn) ?_
  refine V_icmpgeN (tgt := 29) dX5_swingAll_7 (by decide) (by omega) (by omega) (fun c7 => ?_) (fun c7 => ?_)
  · skip
    refine V_return dX5_swingAll_29 rfl ?_
    rw [show pn = i by omega] at hQ
    exact hQ
  · skip
    refine V_ild1 dX5_swingAll_10 ?_
    refine V_ild2 dX5_swingAll_11 ?_
    refine V_ishr dX5_swingAll_12 ?_
    refine V_iconst (v := nI 1) dX5_swingAll_13 (by decide) ?_
    refine V_iand dX5_swingAll_14 ?_
    refine V_ifeq (tgt := 23) dX5_swingAll_15 (by decide) (fun c15 => ?_) (fun c15 => ?_)
    · skip
      refine V_incN2 dX5_swingAll_23 rfl ?_
      refine V_goto (tgt := 2) dX5_swingAll_26 (by decide) ?_
      have hni := hni (by omega)
      rw [tSwAll, if_pos c15] at hni
      exact hni
    · skip
      refine V_ald0 dX5_swingAll_18 ?_
      refine V_ild2 dX5_swingAll_19 ?_
      refine V_iv1 dX5_swingAll_20 wlX5_88 mdX5_swing miX5_swing rfl (hT.1 0 (0, 5) rfl) rfl rfl (kX5_swing hT (by omega) ⟨rfl, ?_⟩)
      refine V_incN2 dX5_swingAll_23 rfl ?_
      refine V_goto (tgt := 2) dX5_swingAll_26 (by decide) ?_
      have hni := hni (by omega)
      rw [tSwAll, if_neg c15] at hni
      exact hni
end KT
