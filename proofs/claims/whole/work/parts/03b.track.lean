section KT
variable {d : Nat} {b : Nat × Nat} {Y : xY} {G : xG} {N : xM} {Q : Option xAV → xY → xG → xM → Prop} {r : Nat}
def tSwing (T : xT) (p : Nat) : xT := va_up T 10 (upd (T 10) p (1 - T 10 p))
theorem kX5_swing (hT : xTr Y G r) {p : Nat} (hp : p < 8) (hQ : Q none Y G (va_up N r (tSwing (N r) p))) : V RX5 false cX5_swing 2 none none d b 0 [some (xR r 0), some (xI (nI p))] [] Y G N Q := by
  refine V_reg r ?_
  refine V_ald0 dX5_swing_0 ?_
  refine V_getR dX5_swing_1 flX5_40 (hT.1 0 (0, 5) rfl) (hT.2 9 (by decide) (by decide)) ?_
  refine V_ild1 dX5_swing_4 ?_
  refine V_iconst (v := nI 1) dX5_swing_5 (by decide) ?_
  refine V_ald0 dX5_swing_6 ?_
  refine V_getR dX5_swing_7 flX5_40 (hT.1 0 (0, 5) rfl) (hT.2 9 (by decide) (by decide)) ?_
  refine V_ild1 dX5_swing_10 ?_
  refine V_iar dX5_swing_11 (hT.1 10 (1, 8) rfl) (by omega) (by decide) ?_
  refine V_isub dX5_swing_12 ?_
  refine V_iasr dX5_swing_13 (hT.1 10 (1, 8) rfl) (by omega) (by decide) ?_
  refine V_return dX5_swing_14 rfl ?_
  exact hQ
def tHold (T : xT) (m p : Nat) : xT := va_up (va_up T 13 (upd (T 13) p (nI m))) 8 (upd (va_up T 13 (upd (T 13) p (nI m)) 8) m (nI (20 + p)))
theorem kX5_hold (hT : xTr Y G r) {m p : Nat} (hm : m < 6) (hp : p < 8) (hQ : Q none Y G (va_up N r (tHold (N r) m p))) : V RX5 false cX5_hold 3 none none d b 0 [some (xR r 0), some (xI (nI m)), some (xI (nI p))] [] Y G N Q := by
  refine V_reg r ?_
  refine V_ald0 dX5_hold_0 ?_
  refine V_getR dX5_hold_1 flX5_49 (hT.1 0 (0, 5) rfl) (hT.2 12 (by decide) (by decide)) ?_
  refine V_ild2 dX5_hold_4 ?_
  refine V_ild1 dX5_hold_5 ?_
  refine V_iasr dX5_hold_6 (hT.1 13 (1, 8) rfl) (by omega) (by decide) ?_
  refine V_ald0 dX5_hold_7 ?_
  refine V_getR dX5_hold_8 flX5_34 (hT.1 0 (0, 5) rfl) (hT.2 7 (by decide) (by decide)) ?_
  refine V_ild1 dX5_hold_11 ?_
  refine V_bipush (v := nI 20) dX5_hold_12 (by decide) ?_
  refine V_ild2 dX5_hold_14 ?_
  refine V_iaddN dX5_hold_15 ?_
  refine V_iasr dX5_hold_16 (hT.1 8 (1, 6) rfl) (by omega) (by decide) ?_
  refine V_return dX5_hold_17 rfl ?_
  exact hQ
end KT
