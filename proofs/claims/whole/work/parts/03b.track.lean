theorem xne {x : Int32} {a b : Nat} (h : x = nI a) (e : x = nI b) (hd : decide (nI a = nI b) = false) : False := by
  have := h.symm.trans e
  rw [decide_eq_false_iff_not] at hd
  exact hd this
/-- a number that is none below 0, nor n or more, is a natural -/
theorem xIx {x : Int32} {n : Nat} (h0 : ¬ x < 0) (h1 : ¬ nI n ≤ x) (hn : n < 2 ^ 31) : ∃ j, j < n ∧ x = nI j := by
  rcases pk_ix x hn with h | h | h
  · exact absurd h h0
  · exact absurd h h1
  · exact h
section KT
variable {d : Nat} {b : Nat × Nat} {Y : xY} {G : xG} {N : xM} {T : xT} {Q : Option xAV → xY → xG → xM → Prop} {r : Nat}
def tSwing (T : xT) (p : Nat) : xT := va_up T 10 (upd (T 10) p (nI 1 - T 10 p))
theorem kX5_swing (hT : xTr Y G r) {p : Nat} (hp : p < 8) (hQ : Q none Y G (va_up N r (tSwing T p))) : V RX5 false cX5_swing 2 none none d b 0 [some (xR r 0), some (xI (nI p))] [] Y G (va_up N r T) Q := by
  refine V_ald0 dX5_swing_0 ?_
  refine V_getR dX5_swing_1 flX5_40 (hT.1 0 (0, 5) rfl) (show G r 0 9 = some (r, 10) from hT.2 9 (by decide) (by decide)) ?_
  refine V_ild1 dX5_swing_4 ?_
  refine V_iconst (v := nI 1) dX5_swing_5 (by decide) ?_
  refine V_ald0 dX5_swing_6 ?_
  refine V_getR dX5_swing_7 flX5_40 (hT.1 0 (0, 5) rfl) (show G r 0 9 = some (r, 10) from hT.2 9 (by decide) (by decide)) ?_
  refine V_ild1 dX5_swing_10 ?_
  refine V_iar dX5_swing_11 (hT.1 10 (1, 8) rfl) (by omega) (by decide) ?_
  refine V_isub dX5_swing_12 ?_
  refine V_iasr dX5_swing_13 (hT.1 10 (1, 8) rfl) (by omega) (by decide) ?_
  refine V_return dX5_swing_14 rfl ?_
  exact hQ
def tHold (T : xT) (m p : Nat) : xT := va_up (va_up T 13 (upd (T 13) p (nI m))) 8 (upd (va_up T 13 (upd (T 13) p (nI m)) 8) m (nI (20 + p)))
theorem kX5_hold (hT : xTr Y G r) {m p : Nat} (hm : m < 6) (hp : p < 8) (hQ : Q none Y G (va_up N r (tHold T m p))) : V RX5 false cX5_hold 3 none none d b 0 [some (xR r 0), some (xI (nI m)), some (xI (nI p))] [] Y G (va_up N r T) Q := by
  refine V_ald0 dX5_hold_0 ?_
  refine V_getR dX5_hold_1 flX5_49 (hT.1 0 (0, 5) rfl) (show G r 0 12 = some (r, 13) from hT.2 12 (by decide) (by decide)) ?_
  refine V_ild2 dX5_hold_4 ?_
  refine V_ild1 dX5_hold_5 ?_
  refine V_iasr dX5_hold_6 (hT.1 13 (1, 8) rfl) (by omega) (by decide) ?_
  refine V_ald0 dX5_hold_7 ?_
  refine V_getR dX5_hold_8 flX5_34 (hT.1 0 (0, 5) rfl) (show G r 0 7 = some (r, 8) from hT.2 7 (by decide) (by decide)) ?_
  refine V_ild1 dX5_hold_11 ?_
  refine V_bipush (v := nI 20) dX5_hold_12 (by decide) ?_
  refine V_ild2 dX5_hold_14 ?_
  refine V_iaddN dX5_hold_15 ?_
  refine V_iasr dX5_hold_16 (hT.1 8 (1, 6) rfl) (by omega) (by decide) ?_
  refine V_return dX5_hold_17 rfl ?_
  exact hQ
def tTo (T : xT) (to : Int32) : Int32 := if to < T 0 3 then to else if nI 8 ≤ to then to else nI 8
def tSend (T : xT) (m to : Int32) : xT := if m < 0 then T else if T 0 2 ≤ m then T else va_up T 8 (upd (T 8) m.toNatClampNeg (tTo T to))
theorem kX5_send (hT : xTr Y G r) {mb : Nat} (hmb : T 0 2 = nI mb) (hm6 : mb ≤ 6) {m to : Int32} (hQ : Q none Y G (va_up N r (tSend T m to))) : V RX5 false cX5_send 3 none none d b 0 [some (xR r 0), some (xI m), some (xI to)] [] Y G (va_up N r T) Q := by
  refine V_ild1 dX5_send_0 ?_
  refine V_iflt (tgt := 38) dX5_send_1 (by decide) (fun c1 => ?_) (fun c1 => ?_)
  · skip
    refine V_return dX5_send_38 rfl ?_
    rw [tSend, if_pos c1] at hQ
    exact hQ
  · skip
    refine V_ild1 dX5_send_4 ?_
    refine V_ald0 dX5_send_5 ?_
    refine V_getIr dX5_send_6 flX5_18 (hT.1 0 (0, 5) rfl) ?_
    refine V_icmpge (tgt := 38) dX5_send_9 (by decide) (fun c9 => ?_) (fun c9 => ?_)
    · skip
      refine V_return dX5_send_38 rfl ?_
      rw [tSend, if_neg c1, if_pos c9] at hQ
      exact hQ
    · skip
      obtain ⟨j, hj, rfl⟩ := xIx c1 (by rw [← hmb]; exact c9) (by omega)
      refine V_ald0 dX5_send_12 ?_
      refine V_getR dX5_send_13 flX5_34 (hT.1 0 (0, 5) rfl) (show G r 0 7 = some (r, 8) from hT.2 7 (by decide) (by decide)) ?_
      refine V_ild1 dX5_send_16 ?_
      refine V_ild2 dX5_send_17 ?_
      refine V_ald0 dX5_send_18 ?_
      refine V_getIr dX5_send_19 flX5_21 (hT.1 0 (0, 5) rfl) ?_
      refine V_icmplt (tgt := 36) dX5_send_22 (by decide) (fun c22 => ?_) (fun c22 => ?_)
      · skip
        refine V_ild2 dX5_send_36 ?_
        refine V_iasr dX5_send_37 (hT.1 8 (1, 6) rfl) (by omega) (by decide) ?_
        refine V_return dX5_send_38 rfl ?_
        rw [tSend, if_neg c1, if_neg c9] at hQ
        rw [nI_clamp (by omega), tTo, if_pos c22] at hQ
        exact hQ
      · skip
        refine V_ild2 dX5_send_25 ?_
        refine V_bipush (v := nI 8) dX5_send_26 (by decide) ?_
        refine V_icmpge (tgt := 36) dX5_send_28 (by decide) (fun c28 => ?_) (fun c28 => ?_)
        · skip
          refine V_ild2 dX5_send_36 ?_
          refine V_iasr dX5_send_37 (hT.1 8 (1, 6) rfl) (by omega) (by decide) ?_
          refine V_return dX5_send_38 rfl ?_
          rw [tSend, if_neg c1, if_neg c9] at hQ
          rw [nI_clamp (by omega), tTo, if_neg c22, if_pos c28] at hQ
          exact hQ
        · skip
          refine V_bipush (v := nI 8) dX5_send_31 (by decide) ?_
          refine V_goto (tgt := 37) dX5_send_33 (by decide) ?_
          refine V_iasr dX5_send_37 (hT.1 8 (1, 6) rfl) (by omega) (by decide) ?_
          refine V_return dX5_send_38 rfl ?_
          rw [tSend, if_neg c1, if_neg c9] at hQ
          rw [nI_clamp (by omega), tTo, if_neg c22, if_neg c28] at hQ
          exact hQ
abbrev tInTray (T : xT) (m : Nat) : Prop := T 8 m = nI 8 ∨ T 8 m = nI 9
theorem kX5_isInTray (hT : xTr Y G r) {m : Nat} (hm : m < 6) (hQ : Q (some (xI (if tInTray T m then 1 else 0))) Y G (va_up N r T)) : V RX5 false cX5_isInTray 2 (some .boolean) none d b 0 [some (xR r 0), some (xI (nI m))] [] Y G (va_up N r T) Q := by
  refine V_ald0 dX5_isInTray_0 ?_
  refine V_getR dX5_isInTray_1 flX5_34 (hT.1 0 (0, 5) rfl) (show G r 0 7 = some (r, 8) from hT.2 7 (by decide) (by decide)) ?_
  refine V_ild1 dX5_isInTray_4 ?_
  refine V_iar dX5_isInTray_5 (hT.1 8 (1, 6) rfl) (by omega) (by decide) ?_
  refine V_bipush (v := nI 8) dX5_isInTray_6 (by decide) ?_
  refine V_icmpeq (tgt := 22) dX5_isInTray_8 (by decide) (fun c8 => ?_) (fun c8 => ?_)
  · skip
    refine V_iconst (v := 1) dX5_isInTray_22 (by decide) ?_
    refine V_goto (tgt := 27) dX5_isInTray_23 (by decide) ?_
    refine V_ireturn dX5_isInTray_27 ⟨_, rfl, xbool (by first | exact Or.inl rfl | exact Or.inr rfl | exact xite01 _)⟩ ?_
    first | (rw [if_pos (Or.inl c8)] at hQ; exact hQ) | (rw [if_pos (Or.inr c19)] at hQ; exact hQ) | (rw [if_neg (fun h => h.elim c8 c19)] at hQ; exact hQ)
  · skip
    refine V_ald0 dX5_isInTray_11 ?_
    refine V_getR dX5_isInTray_12 flX5_34 (hT.1 0 (0, 5) rfl) (show G r 0 7 = some (r, 8) from hT.2 7 (by decide) (by decide)) ?_
    refine V_ild1 dX5_isInTray_15 ?_
    refine V_iar dX5_isInTray_16 (hT.1 8 (1, 6) rfl) (by omega) (by decide) ?_
    refine V_bipush (v := nI 9) dX5_isInTray_17 (by decide) ?_
    refine V_icmpne (tgt := 26) dX5_isInTray_19 (by decide) (fun c19 => ?_) (fun c19 => ?_)
    · skip
      refine V_iconst (v := 0) dX5_isInTray_26 (by decide) ?_
      refine V_ireturn dX5_isInTray_27 ⟨_, rfl, xbool (by first | exact Or.inl rfl | exact Or.inr rfl | exact xite01 _)⟩ ?_
      first | (rw [if_pos (Or.inl c8)] at hQ; exact hQ) | (rw [if_pos (Or.inr c19)] at hQ; exact hQ) | (rw [if_neg (fun h => h.elim c8 c19)] at hQ; exact hQ)
    · skip
      refine V_iconst (v := 1) dX5_isInTray_22 (by decide) ?_
      refine V_goto (tgt := 27) dX5_isInTray_23 (by decide) ?_
      refine V_ireturn dX5_isInTray_27 ⟨_, rfl, xbool (by first | exact Or.inl rfl | exact Or.inr rfl | exact xite01 _)⟩ ?_
      first | (rw [if_pos (Or.inl c8)] at hQ; exact hQ) | (rw [if_pos (Or.inr c19)] at hQ; exact hQ) | (rw [if_neg (fun h => h.elim c8 c19)] at hQ; exact hQ)
def tThrow (T : xT) (m : Nat) (w : Int32) : xT := va_up (va_up (va_up T 8 (upd (T 8) m (nI 10))) 6 (upd (va_up T 8 (upd (T 8) m (nI 10)) 6) m w)) 7 (upd (va_up (va_up T 8 (upd (T 8) m (nI 10))) 6 (upd (va_up T 8 (upd (T 8) m (nI 10)) 6) m w) 7) m (va_up (va_up T 8 (upd (T 8) m (nI 10))) 6 (upd (va_up T 8 (upd (T 8) m (nI 10)) 6) m w) 0 1))
theorem kX5_throwAnew (hT : xTr Y G r) {m : Nat} (hm : m < 6) {w : Int32} (hQ : Q none Y G (va_up N r (tThrow T m w))) : V RX5 false cX5_throwAnew 3 none none d b 0 [some (xR r 0), some (xI (nI m)), some (xI w)] [] Y G (va_up N r T) Q := by
  refine V_ald0 dX5_throwAnew_0 ?_
  refine V_getR dX5_throwAnew_1 flX5_34 (hT.1 0 (0, 5) rfl) (show G r 0 7 = some (r, 8) from hT.2 7 (by decide) (by decide)) ?_
  refine V_ild1 dX5_throwAnew_4 ?_
  refine V_bipush (v := nI 10) dX5_throwAnew_5 (by decide) ?_
  refine V_iasr dX5_throwAnew_7 (hT.1 8 (1, 6) rfl) (by omega) (by decide) ?_
  refine V_ald0 dX5_throwAnew_8 ?_
  refine V_getR dX5_throwAnew_9 flX5_27 (hT.1 0 (0, 5) rfl) (show G r 0 5 = some (r, 6) from hT.2 5 (by decide) (by decide)) ?_
  refine V_ild1 dX5_throwAnew_12 ?_
  refine V_ild2 dX5_throwAnew_13 ?_
  refine V_iasr dX5_throwAnew_14 (hT.1 6 (1, 6) rfl) (by omega) (by decide) ?_
  refine V_ald0 dX5_throwAnew_15 ?_
  refine V_getR dX5_throwAnew_16 flX5_31 (hT.1 0 (0, 5) rfl) (show G r 0 6 = some (r, 7) from hT.2 6 (by decide) (by decide)) ?_
  refine V_ild1 dX5_throwAnew_19 ?_
  refine V_ald0 dX5_throwAnew_20 ?_
  refine V_getIr dX5_throwAnew_21 flX5_15 (hT.1 0 (0, 5) rfl) ?_
  refine V_iasr dX5_throwAnew_24 (hT.1 7 (1, 6) rfl) (by omega) (by decide) ?_
  refine V_return dX5_throwAnew_25 rfl ?_
  exact hQ
def tAst (T : xT) : Nat → Bool
  | 0 => false
  | n + 1 => tAst T n || (decide (T 8 n < nI 8) || decide (T 8 n = nI 10))
theorem tAst_up {T : xT} {i : Nat} (h : tAst T i = true) : ∀ n, i ≤ n → tAst T n = true := by
  intro n hn
  induction n with
  | zero => rw [show i = 0 by omega] at h; exact h
  | succ n ih =>
    by_cases e : i = n + 1
    · rw [← e]; exact h
    · rw [tAst, ih (by omega)]; rfl
theorem kX5_isAstir (hT : xTr Y G r) {mb : Nat} (hmb : T 0 2 = nI mb) (hm6 : mb ≤ 6) (hQ : Q (some (xI (if tAst T mb = true then 1 else 0))) Y G (va_up N r T)) : V RX5 false cX5_isAstir 2 (some .boolean) none d b 0 [some (xR r 0), none] [] Y G (va_up N r T) Q := by
  refine V_iconst (v := nI 0) dX5_isAstir_0 (by decide) ?_
  refine V_ist1 dX5_isAstir_1 rfl ?_
  refine xDown (P := fun i => tAst T i = false → V RX5 false cX5_isAstir 2 (some .boolean) none d b 2 [some (xR r 0), some (xI (nI i))] [] Y G (va_up N r T) Q) mb ?_ 0 (Nat.zero_le _) rfl 
  intro i hii hni ha
  refine V_ild1 dX5_isAstir_2 ?_
  refine V_ald0 dX5_isAstir_3 ?_
  refine V_getIr dX5_isAstir_4 flX5_18 (hT.1 0 (0, 5) rfl) ?_
  refine V_eqI hmb ?_
  refine V_icmpgeN (tgt := 40) dX5_isAstir_7 (by decide) (by omega) (by omega) (fun c7 => ?_) (fun c7 => ?_)
  · skip
    refine V_iconst (v := 0) dX5_isAstir_40 (by decide) ?_
    refine V_ireturn dX5_isAstir_41 ⟨_, rfl, xbool (by first | exact Or.inl rfl | exact Or.inr rfl | exact xite01 _)⟩ ?_
    rw [show i = mb by omega] at ha
    rw [ha] at hQ
    exact hQ
  · skip
    refine V_ald0 dX5_isAstir_10 ?_
    refine V_getR dX5_isAstir_11 flX5_34 (hT.1 0 (0, 5) rfl) (show G r 0 7 = some (r, 8) from hT.2 7 (by decide) (by decide)) ?_
    refine V_ild1 dX5_isAstir_14 ?_
    refine V_iar dX5_isAstir_15 (hT.1 8 (1, 6) rfl) (by omega) (by decide) ?_
    refine V_bipush (v := nI 8) dX5_isAstir_16 (by decide) ?_
    refine V_icmplt (tgt := 32) dX5_isAstir_18 (by decide) (fun c18 => ?_) (fun c18 => ?_)
    · skip
      refine V_iconst (v := 1) dX5_isAstir_32 (by decide) ?_
      refine V_ireturn dX5_isAstir_33 ⟨_, rfl, xbool (by first | exact Or.inl rfl | exact Or.inr rfl | exact xite01 _)⟩ ?_
      rw [if_pos (tAst_up (i := i + 1) (by rw [tAst]; simp [c18]) mb (by omega))] at hQ
      exact hQ
    · skip
      refine V_ald0 dX5_isAstir_21 ?_
      refine V_getR dX5_isAstir_22 flX5_34 (hT.1 0 (0, 5) rfl) (show G r 0 7 = some (r, 8) from hT.2 7 (by decide) (by decide)) ?_
      refine V_ild1 dX5_isAstir_25 ?_
      refine V_iar dX5_isAstir_26 (hT.1 8 (1, 6) rfl) (by omega) (by decide) ?_
      refine V_bipush (v := nI 10) dX5_isAstir_27 (by decide) ?_
      refine V_icmpne (tgt := 34) dX5_isAstir_29 (by decide) (fun c29 => ?_) (fun c29 => ?_)
      · skip
        refine V_incN1 dX5_isAstir_34 rfl ?_
        refine V_goto (tgt := 2) dX5_isAstir_37 (by decide) ?_
        exact hni (by omega) (by rw [tAst, ha]; simp [c18, c29])
      · skip
        refine V_iconst (v := 1) dX5_isAstir_32 (by decide) ?_
        refine V_ireturn dX5_isAstir_33 ⟨_, rfl, xbool (by first | exact Or.inl rfl | exact Or.inr rfl | exact xite01 _)⟩ ?_
        rw [if_pos (tAst_up (i := i + 1) (by rw [tAst]; simp [c29]) mb (by omega))] at hQ
        exact hQ
def tBits (T : xT) (lo hi : Int32) : Nat → Int32
  | 0 => nI 0
  | i + 1 => if T 8 i < lo then tBits T lo hi i else if hi < T 8 i then tBits T lo hi i else tBits T lo hi i ||| (nI 1 <<< (nI i &&& 31))
theorem kX5_bitsBetween (hT : xTr Y G r) {mb : Nat} (hmb : T 0 2 = nI mb) (hm6 : mb ≤ 6) {lo hi : Int32} (hQ : Q (some (xI (tBits T lo hi mb))) Y G (va_up N r T)) : V RX5 false cX5_bitsBetween 5 (some .int) none d b 0 [some (xR r 0), some (xI lo), some (xI hi), none, none] [] Y G (va_up N r T) Q := by
  refine V_iconst (v := nI 0) dX5_bitsBetween_0 (by decide) ?_
  refine V_ist3 dX5_bitsBetween_1 rfl ?_
  refine V_iconst (v := nI 0) dX5_bitsBetween_2 (by decide) ?_
  refine V_ist4 dX5_bitsBetween_3 rfl ?_
  refine xDown (P := fun i => V RX5 false cX5_bitsBetween 5 (some .int) none d b 5 [some (xR r 0), some (xI lo), some (xI hi), some (xI (tBits T lo hi i)), some (xI (nI i))] [] Y G (va_up N r T) Q) mb ?_ 0 (Nat.zero_le _)
  intro i hii hni
  refine V_ild4 dX5_bitsBetween_5 ?_
  refine V_ald0 dX5_bitsBetween_7 ?_
  refine V_getIr dX5_bitsBetween_8 flX5_18 (hT.1 0 (0, 5) rfl) ?_
  refine V_eqI hmb ?_
  refine V_icmpgeN (tgt := 49) dX5_bitsBetween_11 (by decide) (by omega) (by omega) (fun c11 => ?_) (fun c11 => ?_)
  · skip
    refine V_ild3 dX5_bitsBetween_49 ?_
    refine V_ireturn dX5_bitsBetween_50 ⟨_, rfl, vp_nar_int _⟩ ?_
    rw [show mb = i by omega] at hQ
    exact hQ
  · skip
    refine V_ald0 dX5_bitsBetween_14 ?_
    refine V_getR dX5_bitsBetween_15 flX5_34 (hT.1 0 (0, 5) rfl) (show G r 0 7 = some (r, 8) from hT.2 7 (by decide) (by decide)) ?_
    refine V_ild4 dX5_bitsBetween_18 ?_
    refine V_iar dX5_bitsBetween_20 (hT.1 8 (1, 6) rfl) (by omega) (by decide) ?_
    refine V_ild1 dX5_bitsBetween_21 ?_
    refine V_icmplt (tgt := 43) dX5_bitsBetween_22 (by decide) (fun c22 => ?_) (fun c22 => ?_)
    · skip
      refine V_incN4 dX5_bitsBetween_43 rfl ?_
      refine V_goto (tgt := 5) dX5_bitsBetween_46 (by decide) ?_
      have hni := hni (by omega)
      rw [tBits, if_pos c22] at hni
      exact hni
    · skip
      refine V_ald0 dX5_bitsBetween_25 ?_
      refine V_getR dX5_bitsBetween_26 flX5_34 (hT.1 0 (0, 5) rfl) (show G r 0 7 = some (r, 8) from hT.2 7 (by decide) (by decide)) ?_
      refine V_ild4 dX5_bitsBetween_29 ?_
      refine V_iar dX5_bitsBetween_31 (hT.1 8 (1, 6) rfl) (by omega) (by decide) ?_
      refine V_ild2 dX5_bitsBetween_32 ?_
      refine V_icmpgt (tgt := 43) dX5_bitsBetween_33 (by decide) (fun c33 => ?_) (fun c33 => ?_)
      · skip
        refine V_incN4 dX5_bitsBetween_43 rfl ?_
        refine V_goto (tgt := 5) dX5_bitsBetween_46 (by decide) ?_
        have hni := hni (by omega)
        rw [tBits, if_neg c22, if_pos c33] at hni
        exact hni
      · skip
        refine V_ild3 dX5_bitsBetween_36 ?_
        refine V_iconst (v := nI 1) dX5_bitsBetween_37 (by decide) ?_
        refine V_ild4 dX5_bitsBetween_38 ?_
        refine V_ishl dX5_bitsBetween_40 ?_
        refine V_ior dX5_bitsBetween_41 ?_
        refine V_ist3 dX5_bitsBetween_42 rfl ?_
        refine V_incN4 dX5_bitsBetween_43 rfl ?_
        refine V_goto (tgt := 5) dX5_bitsBetween_46 (by decide) ?_
        have hni := hni (by omega)
        rw [tBits, if_neg c22, if_neg c33] at hni
        exact hni
end KT
