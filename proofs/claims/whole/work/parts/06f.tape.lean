section KC
variable {d : Nat} {b : Nat × Nat} {Y : xY} {G : xG} {N : xM} {R U A S T : xT} {Q : Option xAV → xY → xG → xM → Prop}
/-- the byte at a place; -1 behind the end -/
def pBy (b : Nat → Int32) (n i : Nat) : Int32 := if i < n then b i else -1
abbrev pFg (b : Nat → Int32) (n i : Nat) : Prop := ¬ pBy b n i < nI 48 ∧ ¬ nI 57 < pBy b n i
def uF (U : xT) (v : Int32) : xT := va_up U 0 (upd (U 0) 4 v)
def uA (U : xT) (a : Nat) : xT := va_up U 0 (upd (U 0) 2 (nI a))
def uV (U : xT) (v : Int32) : xT := va_up U 0 (upd (U 0) 3 v)
/-- a number's value, and where it ends -/
def pN (b : Nat → Int32) (n a : Nat) : Option (Int32 × Nat) :=
  if pFg b n a then (if pFg b n (a + 1) then (if pFg b n (a + 2) then none else some ((pBy b n a - nI 48) * nI 10 + pBy b n (a + 1) - nI 48, a + 2)) else some (pBy b n a - nI 48, a + 1)) else none
theorem kX4_byteAt (hS : xSt Y G) {n : Nat} (hn : U 0 1 = nI n) (hn2 : n ≤ 110) {i : Nat} (hi : i ≤ 200) (hQ : Q (some (xI (pBy (U 1) n i))) Y G (va_up N 2 U)) : V RX4 false cX4_byteAt 2 (some .int) none d b 0 [some (xR 2 0), some (xI (nI i))] [] Y G (va_up N 2 U) Q := by
  refine V_ild1 dX4_byteAt_0 ?_
  refine V_ald0 dX4_byteAt_1 ?_
  refine V_getIr dX4_byteAt_2 flX4_15 (hS.r2.1 0 (0, 4) rfl) ?_
  refine V_eqI hn ?_
  refine V_icmpgeN (tgt := 23) dX4_byteAt_5 (by decide) (by omega) (by omega) (fun c5 => ?_) (fun c5 => ?_)
  · skip
    refine V_iconst (v := (-1)) dX4_byteAt_23 (by decide) ?_
    refine V_ireturn dX4_byteAt_24 ⟨_, rfl, vp_nar_int _⟩ ?_
    rw [pBy, if_neg (by omega)] at hQ
    exact hQ
  · skip
    refine V_ild1 dX4_byteAt_8 ?_
    refine V_bipush (v := nI 110) dX4_byteAt_9 (by decide) ?_
    refine V_icmpgeN (tgt := 23) dX4_byteAt_11 (by decide) (by omega) (by omega) (fun c11 => ?_) (fun c11 => ?_)
    · exact absurd c11 (by omega)
    · skip
      refine V_ald0 dX4_byteAt_14 ?_
      refine V_getR dX4_byteAt_15 flX4_11 (hS.r2.1 0 (0, 4) rfl) (hS.r2.2 0 (2, 1) rfl) ?_
      refine V_ild1 dX4_byteAt_18 ?_
      refine V_iar dX4_byteAt_19 (hS.r2.1 1 (1, 110) rfl) (by omega) (by decide) ?_
      refine V_goto (tgt := 24) dX4_byteAt_20 (by decide) ?_
      refine V_ireturn dX4_byteAt_24 ⟨_, rfl, vp_nar_int _⟩ ?_
      rw [pBy, if_pos (by omega)] at hQ
      exact hQ
theorem kX4_next (hS : xSt Y G) {n : Nat} (hn : U 0 1 = nI n) (hn2 : n ≤ 110) {a : Nat} (ha : U 0 2 = nI a) (ha2 : a ≤ 110) (hQ : Q (some (xI (pBy (U 1) n a))) Y G (va_up N 2 U)) : V RX4 false cX4_next 1 (some .int) none (d + 1) b 0 [some (xR 2 0)] [] Y G (va_up N 2 U) Q := by
  refine V_ald0 dX4_next_0 ?_
  refine V_ald0 dX4_next_1 ?_
  refine V_getIr dX4_next_2 flX4_19 (hS.r2.1 0 (0, 4) rfl) ?_
  refine V_eqI ha ?_
  refine V_iv1 dX4_next_5 wlX4_96 mdX4_byteAt miX4_byteAt rfl (hS.r2.1 0 (0, 4) rfl) rfl rfl (kX4_byteAt hS hn hn2 (by omega) ⟨rfl, ?_⟩)
  refine V_ireturn dX4_next_8 ⟨_, rfl, vp_nar_int _⟩ ?_
  exact hQ
theorem kX4_isFigureAt (hS : xSt Y G) {n : Nat} (hn : U 0 1 = nI n) (hn2 : n ≤ 110) {i : Nat} (hi : i ≤ 200) (hQ : Q (some (xI (if pFg (U 1) n i then 1 else 0))) Y G (va_up N 2 U)) : V RX4 false cX4_isFigureAt 3 (some .boolean) none (d + 1) b 0 [some (xR 2 0), some (xI (nI i)), none] [] Y G (va_up N 2 U) Q := by
  refine V_ald0 dX4_isFigureAt_0 ?_
  refine V_ild1 dX4_isFigureAt_1 ?_
  refine V_iv1 dX4_isFigureAt_2 wlX4_96 mdX4_byteAt miX4_byteAt rfl (hS.r2.1 0 (0, 4) rfl) rfl rfl (kX4_byteAt hS hn hn2 (by omega) ⟨rfl, ?_⟩)
  refine V_ist2 dX4_isFigureAt_5 rfl ?_
  refine V_ild2 dX4_isFigureAt_6 ?_
  refine V_bipush (v := nI 48) dX4_isFigureAt_7 (by decide) ?_
  refine V_icmplt (tgt := 22) dX4_isFigureAt_9 (by decide) (fun c9 => ?_) (fun c9 => ?_)
  · skip
    refine V_iconst (v := 0) dX4_isFigureAt_22 (by decide) ?_
    refine V_ireturn dX4_isFigureAt_23 ⟨_, rfl, xbool (by first | exact Or.inl rfl | exact Or.inr rfl | exact xite01 _)⟩ ?_
    rw [if_neg (fun h => h.1 c9)] at hQ
    exact hQ
  · skip
    refine V_ild2 dX4_isFigureAt_12 ?_
    refine V_bipush (v := nI 57) dX4_isFigureAt_13 (by decide) ?_
    refine V_icmpgt (tgt := 22) dX4_isFigureAt_15 (by decide) (fun c15 => ?_) (fun c15 => ?_)
    · skip
      refine V_iconst (v := 0) dX4_isFigureAt_22 (by decide) ?_
      refine V_ireturn dX4_isFigureAt_23 ⟨_, rfl, xbool (by first | exact Or.inl rfl | exact Or.inr rfl | exact xite01 _)⟩ ?_
      rw [if_neg (fun h => h.2 c15)] at hQ
      exact hQ
    · skip
      refine V_iconst (v := 1) dX4_isFigureAt_18 (by decide) ?_
      refine V_goto (tgt := 23) dX4_isFigureAt_19 (by decide) ?_
      refine V_ireturn dX4_isFigureAt_23 ⟨_, rfl, xbool (by first | exact Or.inl rfl | exact Or.inr rfl | exact xite01 _)⟩ ?_
      rw [if_pos ⟨c9, c15⟩] at hQ
      exact hQ
theorem kX4_fails (hS : xSt Y G) {v : Int32} (hQ : Q (some (xI 0)) Y G (va_up N 2 (uF U v))) : V RX4 false cX4_fails 2 (some .boolean) none d b 0 [some (xR 2 0), some (xI v)] [] Y G (va_up N 2 U) Q := by
  refine V_ald0 dX4_fails_0 ?_
  refine V_ild1 dX4_fails_1 ?_
  refine V_putIr dX4_fails_2 fwX4_25 (hS.r2.1 0 (0, 4) rfl) ?_
  refine V_iconst (v := 0) dX4_fails_5 (by decide) ?_
  refine V_ireturn dX4_fails_6 ⟨_, rfl, xbool (by first | exact Or.inl rfl | exact Or.inr rfl | exact xite01 _)⟩ ?_
  exact hQ
theorem kX4_take (hS : xSt Y G) {n : Nat} (hn : U 0 1 = nI n) (hn2 : n ≤ 110) {a : Nat} (ha : U 0 2 = nI a) (ha2 : a ≤ 110) {c : Int32} (h1 : pBy (U 1) n a = c → Q (some (xI 1)) Y G (va_up N 2 (uA U (a + 1)))) (h0 : ¬ pBy (U 1) n a = c → Q (some (xI 0)) Y G (va_up N 2 (uF U (nI 1)))) : V RX4 false cX4_take 2 (some .boolean) none (d + 2) b 0 [some (xR 2 0), some (xI c)] [] Y G (va_up N 2 U) Q := by
  refine V_ald0 dX4_take_0 ?_
  refine V_iv0 dX4_take_1 wlX4_54 mdX4_next miX4_next rfl (hS.r2.1 0 (0, 4) rfl) rfl rfl (kX4_next hS hn hn2 ha ha2 ⟨rfl, ?_⟩)
  refine V_ild1 dX4_take_4 ?_
  refine V_icmpeq (tgt := 14) dX4_take_5 (by decide) (fun c5 => ?_) (fun c5 => ?_)
  · skip
    refine V_ald0 dX4_take_14 ?_
    refine V_dupR dX4_take_15 ?_
    refine V_getIr dX4_take_16 flX4_19 (hS.r2.1 0 (0, 4) rfl) ?_
    refine V_eqI ha ?_
    refine V_iconst (v := nI 1) dX4_take_19 (by decide) ?_
    refine V_iaddN dX4_take_20 ?_
    refine V_putIr dX4_take_21 fwX4_19 (hS.r2.1 0 (0, 4) rfl) ?_
    refine V_iconst (v := 1) dX4_take_24 (by decide) ?_
    refine V_ireturn dX4_take_25 ⟨_, rfl, xbool (by first | exact Or.inl rfl | exact Or.inr rfl | exact xite01 _)⟩ ?_
    exact h1 c5
  · skip
    refine V_ald0 dX4_take_8 ?_
    refine V_iconst (v := nI 1) dX4_take_9 (by decide) ?_
    refine V_iv1 dX4_take_10 wlX4_58 mdX4_fails miX4_fails rfl (hS.r2.1 0 (0, 4) rfl) rfl rfl (kX4_fails hS ⟨rfl, ?_⟩)
    refine V_ireturn dX4_take_13 ⟨_, rfl, xbool (by first | exact Or.inl rfl | exact Or.inr rfl | exact xite01 _)⟩ ?_
    exact h0 c5
theorem kX4_takeNumber (hS : xSt Y G) {n : Nat} (hn : U 0 1 = nI n) (hn2 : n ≤ 110) {a : Nat} (ha : U 0 2 = nI a) (ha2 : a ≤ 110) {lo hi : Int32} (h0 : pN (U 1) n a = none → Q (some (xI 0)) Y G (va_up N 2 (uF U (nI 1)))) (h1 : ∀ v a2, pN (U 1) n a = some (v, a2) → (v < lo ∨ hi < v) → Q (some (xI 0)) Y G (va_up N 2 (uF (uV U v) (nI 2)))) (h2 : ∀ v a2, pN (U 1) n a = some (v, a2) → ¬ v < lo → ¬ hi < v → Q (some (xI 1)) Y G (va_up N 2 (uA (uV U v) a2))) : V RX4 false cX4_takeNumber 5 (some .boolean) none (d + 2) b 0 [some (xR 2 0), some (xI lo), some (xI hi), none, none] [] Y G (va_up N 2 U) Q := by
  refine V_ald0 dX4_takeNumber_0 ?_
  refine V_ald0 dX4_takeNumber_1 ?_
  refine V_getIr dX4_takeNumber_2 flX4_19 (hS.r2.1 0 (0, 4) rfl) ?_
  refine V_eqI ha ?_
  refine V_iv1 dX4_takeNumber_5 wlX4_99 mdX4_isFigureAt miX4_isFigureAt rfl (hS.r2.1 0 (0, 4) rfl) rfl rfl (kX4_isFigureAt hS hn hn2 (by omega) ⟨rfl, ?_⟩)
  refine V_ifeqB (tgt := 37) dX4_takeNumber_8 (by decide) (fun c8 => ?_) (fun c8 => ?_)
  · skip
    refine V_ald0 dX4_takeNumber_37 ?_
    refine V_iconst (v := nI 1) dX4_takeNumber_38 (by decide) ?_
    refine V_iv1 dX4_takeNumber_39 wlX4_58 mdX4_fails miX4_fails rfl (hS.r2.1 0 (0, 4) rfl) rfl rfl (kX4_fails hS ⟨rfl, ?_⟩)
    refine V_ireturn dX4_takeNumber_42 ⟨_, rfl, xbool (by first | exact Or.inl rfl | exact Or.inr rfl | exact xite01 _)⟩ ?_
    exact h0 (by rw [pN, if_neg c8])
  · skip
    refine V_ald0 dX4_takeNumber_11 ?_
    refine V_ald0 dX4_takeNumber_12 ?_
    refine V_getIr dX4_takeNumber_13 flX4_19 (hS.r2.1 0 (0, 4) rfl) ?_
    refine V_eqI ha ?_
    refine V_iconst (v := nI 1) dX4_takeNumber_16 (by decide) ?_
    refine V_iaddN dX4_takeNumber_17 ?_
    refine V_iv1 dX4_takeNumber_18 wlX4_99 mdX4_isFigureAt miX4_isFigureAt rfl (hS.r2.1 0 (0, 4) rfl) rfl rfl (kX4_isFigureAt hS hn hn2 (by omega) ⟨rfl, ?_⟩)
    refine V_ifeqB (tgt := 43) dX4_takeNumber_21 (by decide) (fun c21 => ?_) (fun c21 => ?_)
    · skip
      refine V_ald0 dX4_takeNumber_43 ?_
      refine V_ald0 dX4_takeNumber_44 ?_
      refine V_getIr dX4_takeNumber_45 flX4_19 (hS.r2.1 0 (0, 4) rfl) ?_
      refine V_eqI ha ?_
      refine V_iconst (v := nI 1) dX4_takeNumber_48 (by decide) ?_
      refine V_iaddN dX4_takeNumber_49 ?_
      refine V_iv1 dX4_takeNumber_50 wlX4_99 mdX4_isFigureAt miX4_isFigureAt rfl (hS.r2.1 0 (0, 4) rfl) rfl rfl (kX4_isFigureAt hS hn hn2 (by omega) ⟨rfl, ?_⟩)
      refine V_ifneB (tgt := 60) dX4_takeNumber_53 (by decide) (fun c53 => ?_) (fun c53 => ?_)
      · exact absurd c53 c21
      · skip
        refine V_iconst (v := nI 1) dX4_takeNumber_56 (by decide) ?_
        refine V_goto (tgt := 61) dX4_takeNumber_57 (by decide) ?_
        refine V_ist3 dX4_takeNumber_61 rfl ?_
        refine V_ald0 dX4_takeNumber_62 ?_
        refine V_ald0 dX4_takeNumber_63 ?_
        refine V_getIr dX4_takeNumber_64 flX4_19 (hS.r2.1 0 (0, 4) rfl) ?_
        refine V_eqI ha ?_
        refine V_iv1 dX4_takeNumber_67 wlX4_96 mdX4_byteAt miX4_byteAt rfl (hS.r2.1 0 (0, 4) rfl) rfl rfl (kX4_byteAt hS hn hn2 (by omega) ⟨rfl, ?_⟩)
        refine V_bipush (v := nI 48) dX4_takeNumber_70 (by decide) ?_
        refine V_isub dX4_takeNumber_72 ?_
        refine V_ist4 dX4_takeNumber_73 rfl ?_
        refine V_ald0 dX4_takeNumber_75 ?_
        refine V_ild3 dX4_takeNumber_76 ?_
        refine V_ifeq (tgt := 85) dX4_takeNumber_77 (by decide) (fun c77 => ?_) (fun c77 => ?_)
        · exact absurd c77 (by decide)
        · skip
          refine V_ild4 dX4_takeNumber_80 ?_
          refine V_goto (tgt := 104) dX4_takeNumber_82 (by decide) ?_
          refine V_putIr dX4_takeNumber_104 fwX4_22 (hS.r2.1 0 (0, 4) rfl) ?_
          refine V_ald0 dX4_takeNumber_107 ?_
          refine V_getIr dX4_takeNumber_108 flX4_22 (hS.r2.1 0 (0, 4) rfl) ?_
          refine V_ild1 dX4_takeNumber_111 ?_
          refine V_icmplt (tgt := 123) dX4_takeNumber_112 (by decide) (fun c112 => ?_) (fun c112 => ?_)
          · skip
            refine V_ald0 dX4_takeNumber_123 ?_
            refine V_iconst (v := nI 2) dX4_takeNumber_124 (by decide) ?_
            refine V_iv1 dX4_takeNumber_125 wlX4_58 mdX4_fails miX4_fails rfl (hS.r2.1 0 (0, 4) rfl) rfl rfl (kX4_fails hS ⟨rfl, ?_⟩)
            refine V_ireturn dX4_takeNumber_128 ⟨_, rfl, xbool (by first | exact Or.inl rfl | exact Or.inr rfl | exact xite01 _)⟩ ?_
            exact h1 _ _ (by rw [pN, if_pos c8, if_neg c21]) (Or.inl c112)
          · skip
            refine V_ald0 dX4_takeNumber_115 ?_
            refine V_getIr dX4_takeNumber_116 flX4_22 (hS.r2.1 0 (0, 4) rfl) ?_
            refine V_ild2 dX4_takeNumber_119 ?_
            refine V_icmple (tgt := 129) dX4_takeNumber_120 (by decide) (fun c120 => ?_) (fun c120 => ?_)
            · skip
              refine V_ald0 dX4_takeNumber_129 ?_
              refine V_dupR dX4_takeNumber_130 ?_
              refine V_getIr dX4_takeNumber_131 flX4_19 (hS.r2.1 0 (0, 4) rfl) ?_
              refine V_eqI (show U 0 2 = nI a from ha) ?_
              refine V_ild3 dX4_takeNumber_134 ?_
              refine V_ifeq (tgt := 142) dX4_takeNumber_135 (by decide) (fun c135 => ?_) (fun c135 => ?_)
              · exact absurd c135 (by decide)
              · skip
                refine V_iconst (v := nI 1) dX4_takeNumber_138 (by decide) ?_
                refine V_goto (tgt := 143) dX4_takeNumber_139 (by decide) ?_
                refine V_iaddN dX4_takeNumber_143 ?_
                refine V_putIr dX4_takeNumber_144 fwX4_19 (hS.r2.1 0 (0, 4) rfl) ?_
                refine V_iconst (v := 1) dX4_takeNumber_147 (by decide) ?_
                refine V_ireturn dX4_takeNumber_148 ⟨_, rfl, xbool (by first | exact Or.inl rfl | exact Or.inr rfl | exact xite01 _)⟩ ?_
                exact h2 _ _ (by rw [pN, if_pos c8, if_neg c21]) c112 (fun h => absurd c120 (Int32.not_le.mpr h))
            · skip
              refine V_ald0 dX4_takeNumber_123 ?_
              refine V_iconst (v := nI 2) dX4_takeNumber_124 (by decide) ?_
              refine V_iv1 dX4_takeNumber_125 wlX4_58 mdX4_fails miX4_fails rfl (hS.r2.1 0 (0, 4) rfl) rfl rfl (kX4_fails hS ⟨rfl, ?_⟩)
              refine V_ireturn dX4_takeNumber_128 ⟨_, rfl, xbool (by first | exact Or.inl rfl | exact Or.inr rfl | exact xite01 _)⟩ ?_
              exact h1 _ _ (by rw [pN, if_pos c8, if_neg c21]) (Or.inr (Int32.not_le.mp c120))
    · skip
      refine V_ald0 dX4_takeNumber_24 ?_
      refine V_ald0 dX4_takeNumber_25 ?_
      refine V_getIr dX4_takeNumber_26 flX4_19 (hS.r2.1 0 (0, 4) rfl) ?_
      refine V_eqI ha ?_
      refine V_iconst (v := nI 2) dX4_takeNumber_29 (by decide) ?_
      refine V_iaddN dX4_takeNumber_30 ?_
      refine V_iv1 dX4_takeNumber_31 wlX4_99 mdX4_isFigureAt miX4_isFigureAt rfl (hS.r2.1 0 (0, 4) rfl) rfl rfl (kX4_isFigureAt hS hn hn2 (by omega) ⟨rfl, ?_⟩)
      refine V_ifeqB (tgt := 43) dX4_takeNumber_34 (by decide) (fun c34 => ?_) (fun c34 => ?_)
      · skip
        refine V_ald0 dX4_takeNumber_43 ?_
        refine V_ald0 dX4_takeNumber_44 ?_
        refine V_getIr dX4_takeNumber_45 flX4_19 (hS.r2.1 0 (0, 4) rfl) ?_
        refine V_eqI ha ?_
        refine V_iconst (v := nI 1) dX4_takeNumber_48 (by decide) ?_
        refine V_iaddN dX4_takeNumber_49 ?_
        refine V_iv1 dX4_takeNumber_50 wlX4_99 mdX4_isFigureAt miX4_isFigureAt rfl (hS.r2.1 0 (0, 4) rfl) rfl rfl (kX4_isFigureAt hS hn hn2 (by omega) ⟨rfl, ?_⟩)
        refine V_ifneB (tgt := 60) dX4_takeNumber_53 (by decide) (fun c53 => ?_) (fun c53 => ?_)
        · skip
          refine V_iconst (v := nI 0) dX4_takeNumber_60 (by decide) ?_
          refine V_ist3 dX4_takeNumber_61 rfl ?_
          refine V_ald0 dX4_takeNumber_62 ?_
          refine V_ald0 dX4_takeNumber_63 ?_
          refine V_getIr dX4_takeNumber_64 flX4_19 (hS.r2.1 0 (0, 4) rfl) ?_
          refine V_eqI ha ?_
          refine V_iv1 dX4_takeNumber_67 wlX4_96 mdX4_byteAt miX4_byteAt rfl (hS.r2.1 0 (0, 4) rfl) rfl rfl (kX4_byteAt hS hn hn2 (by omega) ⟨rfl, ?_⟩)
          refine V_bipush (v := nI 48) dX4_takeNumber_70 (by decide) ?_
          refine V_isub dX4_takeNumber_72 ?_
          refine V_ist4 dX4_takeNumber_73 rfl ?_
          refine V_ald0 dX4_takeNumber_75 ?_
          refine V_ild3 dX4_takeNumber_76 ?_
          refine V_ifeq (tgt := 85) dX4_takeNumber_77 (by decide) (fun c77 => ?_) (fun c77 => ?_)
          · skip
            refine V_ild4 dX4_takeNumber_85 ?_
            refine V_bipush (v := nI 10) dX4_takeNumber_87 (by decide) ?_
            refine V_imul dX4_takeNumber_89 ?_
            refine V_ald0 dX4_takeNumber_90 ?_
            refine V_ald0 dX4_takeNumber_91 ?_
            refine V_getIr dX4_takeNumber_92 flX4_19 (hS.r2.1 0 (0, 4) rfl) ?_
            refine V_eqI ha ?_
            refine V_iconst (v := nI 1) dX4_takeNumber_95 (by decide) ?_
            refine V_iaddN dX4_takeNumber_96 ?_
            refine V_iv1 dX4_takeNumber_97 wlX4_96 mdX4_byteAt miX4_byteAt rfl (hS.r2.1 0 (0, 4) rfl) rfl rfl (kX4_byteAt hS hn hn2 (by omega) ⟨rfl, ?_⟩)
            refine V_iadd dX4_takeNumber_100 ?_
            refine V_bipush (v := nI 48) dX4_takeNumber_101 (by decide) ?_
            refine V_isub dX4_takeNumber_103 ?_
            refine V_putIr dX4_takeNumber_104 fwX4_22 (hS.r2.1 0 (0, 4) rfl) ?_
            refine V_ald0 dX4_takeNumber_107 ?_
            refine V_getIr dX4_takeNumber_108 flX4_22 (hS.r2.1 0 (0, 4) rfl) ?_
            refine V_ild1 dX4_takeNumber_111 ?_
            refine V_icmplt (tgt := 123) dX4_takeNumber_112 (by decide) (fun c112 => ?_) (fun c112 => ?_)
            · skip
              refine V_ald0 dX4_takeNumber_123 ?_
              refine V_iconst (v := nI 2) dX4_takeNumber_124 (by decide) ?_
              refine V_iv1 dX4_takeNumber_125 wlX4_58 mdX4_fails miX4_fails rfl (hS.r2.1 0 (0, 4) rfl) rfl rfl (kX4_fails hS ⟨rfl, ?_⟩)
              refine V_ireturn dX4_takeNumber_128 ⟨_, rfl, xbool (by first | exact Or.inl rfl | exact Or.inr rfl | exact xite01 _)⟩ ?_
              exact h1 _ _ (by rw [pN, if_pos c8, if_pos c21, if_neg c34]) (Or.inl c112)
            · skip
              refine V_ald0 dX4_takeNumber_115 ?_
              refine V_getIr dX4_takeNumber_116 flX4_22 (hS.r2.1 0 (0, 4) rfl) ?_
              refine V_ild2 dX4_takeNumber_119 ?_
              refine V_icmple (tgt := 129) dX4_takeNumber_120 (by decide) (fun c120 => ?_) (fun c120 => ?_)
              · skip
                refine V_ald0 dX4_takeNumber_129 ?_
                refine V_dupR dX4_takeNumber_130 ?_
                refine V_getIr dX4_takeNumber_131 flX4_19 (hS.r2.1 0 (0, 4) rfl) ?_
                refine V_eqI (show U 0 2 = nI a from ha) ?_
                refine V_ild3 dX4_takeNumber_134 ?_
                refine V_ifeq (tgt := 142) dX4_takeNumber_135 (by decide) (fun c135 => ?_) (fun c135 => ?_)
                · skip
                  refine V_iconst (v := nI 2) dX4_takeNumber_142 (by decide) ?_
                  refine V_iaddN dX4_takeNumber_143 ?_
                  refine V_putIr dX4_takeNumber_144 fwX4_19 (hS.r2.1 0 (0, 4) rfl) ?_
                  refine V_iconst (v := 1) dX4_takeNumber_147 (by decide) ?_
                  refine V_ireturn dX4_takeNumber_148 ⟨_, rfl, xbool (by first | exact Or.inl rfl | exact Or.inr rfl | exact xite01 _)⟩ ?_
                  exact h2 _ _ (by rw [pN, if_pos c8, if_pos c21, if_neg c34]) c112 (fun h => absurd c120 (Int32.not_le.mpr h))
                · exact absurd (show nI 0 = (0 : Int32) by decide) c135
              · skip
                refine V_ald0 dX4_takeNumber_123 ?_
                refine V_iconst (v := nI 2) dX4_takeNumber_124 (by decide) ?_
                refine V_iv1 dX4_takeNumber_125 wlX4_58 mdX4_fails miX4_fails rfl (hS.r2.1 0 (0, 4) rfl) rfl rfl (kX4_fails hS ⟨rfl, ?_⟩)
                refine V_ireturn dX4_takeNumber_128 ⟨_, rfl, xbool (by first | exact Or.inl rfl | exact Or.inr rfl | exact xite01 _)⟩ ?_
                exact h1 _ _ (by rw [pN, if_pos c8, if_pos c21, if_neg c34]) (Or.inr (Int32.not_le.mp c120))
          · exact absurd (show nI 0 = (0 : Int32) by decide) c77
        · exact absurd c21 c53
      · skip
        refine V_ald0 dX4_takeNumber_37 ?_
        refine V_iconst (v := nI 1) dX4_takeNumber_38 (by decide) ?_
        refine V_iv1 dX4_takeNumber_39 wlX4_58 mdX4_fails miX4_fails rfl (hS.r2.1 0 (0, 4) rfl) rfl rfl (kX4_fails hS ⟨rfl, ?_⟩)
        refine V_ireturn dX4_takeNumber_42 ⟨_, rfl, xbool (by first | exact Or.inl rfl | exact Or.inr rfl | exact xite01 _)⟩ ?_
        exact h0 (by rw [pN, if_pos c8, if_pos c21, if_pos c34])
def pSo (x : Int32) : Int32 := if x = nI 103 then nI 1 else if x = nI 104 then nI 3 else if x = nI 108 then nI 2 else if x = nI 115 then nI 4 else if x = nI 119 then nI 5 else nI 0
theorem kX4_sortOf {x : Int32} (hQ : Q (some (xI (pSo x))) Y G N) : V RX4 false cX4_sortOf 1 (some .int) none d b 0 [some (xI x)] [] Y G N Q := by
  refine V_ild0 dX4_sortOf_0 ?_
  by_cases e0 : x = nI 103
  · refine V_lookup (tgt := 52) (off := 51) dX4_sortOf_1 (by decide) (by show Op.lookupswitch.offset [(103, 51), (104, 55), (108, 53), (115, 57), (119, 59)] 61 x.toInt = _; rw [e0]; rfl) (by decide) ?_
    refine V_iconst (v := nI 1) dX4_sortOf_52 (by decide) ?_
    refine V_ireturn dX4_sortOf_53 ⟨_, rfl, vp_nar_int _⟩ ?_
    rw [pSo, if_pos e0] at hQ
    exact hQ
  by_cases e1 : x = nI 104
  · refine V_lookup (tgt := 56) (off := 55) dX4_sortOf_1 (by decide) (by show Op.lookupswitch.offset [(103, 51), (104, 55), (108, 53), (115, 57), (119, 59)] 61 x.toInt = _; rw [lv_osw e0 (show (nI 103).toInt = 103 by decide), e1]; rfl) (by decide) ?_
    refine V_iconst (v := nI 3) dX4_sortOf_56 (by decide) ?_
    refine V_ireturn dX4_sortOf_57 ⟨_, rfl, vp_nar_int _⟩ ?_
    rw [pSo, if_neg e0, if_pos e1] at hQ
    exact hQ
  by_cases e2 : x = nI 108
  · refine V_lookup (tgt := 54) (off := 53) dX4_sortOf_1 (by decide) (by show Op.lookupswitch.offset [(103, 51), (104, 55), (108, 53), (115, 57), (119, 59)] 61 x.toInt = _; rw [lv_osw e0 (show (nI 103).toInt = 103 by decide), lv_osw e1 (show (nI 104).toInt = 104 by decide), e2]; rfl) (by decide) ?_
    refine V_iconst (v := nI 2) dX4_sortOf_54 (by decide) ?_
    refine V_ireturn dX4_sortOf_55 ⟨_, rfl, vp_nar_int _⟩ ?_
    rw [pSo, if_neg e0, if_neg e1, if_pos e2] at hQ
    exact hQ
  by_cases e3 : x = nI 115
  · refine V_lookup (tgt := 58) (off := 57) dX4_sortOf_1 (by decide) (by show Op.lookupswitch.offset [(103, 51), (104, 55), (108, 53), (115, 57), (119, 59)] 61 x.toInt = _; rw [lv_osw e0 (show (nI 103).toInt = 103 by decide), lv_osw e1 (show (nI 104).toInt = 104 by decide), lv_osw e2 (show (nI 108).toInt = 108 by decide), e3]; rfl) (by decide) ?_
    refine V_iconst (v := nI 4) dX4_sortOf_58 (by decide) ?_
    refine V_ireturn dX4_sortOf_59 ⟨_, rfl, vp_nar_int _⟩ ?_
    rw [pSo, if_neg e0, if_neg e1, if_neg e2, if_pos e3] at hQ
    exact hQ
  by_cases e4 : x = nI 119
  · refine V_lookup (tgt := 60) (off := 59) dX4_sortOf_1 (by decide) (by show Op.lookupswitch.offset [(103, 51), (104, 55), (108, 53), (115, 57), (119, 59)] 61 x.toInt = _; rw [lv_osw e0 (show (nI 103).toInt = 103 by decide), lv_osw e1 (show (nI 104).toInt = 104 by decide), lv_osw e2 (show (nI 108).toInt = 108 by decide), lv_osw e3 (show (nI 115).toInt = 115 by decide), e4]; rfl) (by decide) ?_
    refine V_iconst (v := nI 5) dX4_sortOf_60 (by decide) ?_
    refine V_ireturn dX4_sortOf_61 ⟨_, rfl, vp_nar_int _⟩ ?_
    rw [pSo, if_neg e0, if_neg e1, if_neg e2, if_neg e3, if_pos e4] at hQ
    exact hQ
  refine V_lookup (tgt := 62) (off := 61) dX4_sortOf_1 (by decide) (by show Op.lookupswitch.offset [(103, 51), (104, 55), (108, 53), (115, 57), (119, 59)] 61 x.toInt = _; rw [lv_osw e0 (show (nI 103).toInt = 103 by decide), lv_osw e1 (show (nI 104).toInt = 104 by decide), lv_osw e2 (show (nI 108).toInt = 108 by decide), lv_osw e3 (show (nI 115).toInt = 115 by decide), lv_osw e4 (show (nI 119).toInt = 119 by decide)]; rfl) (by decide) ?_
  refine V_iconst (v := nI 0) dX4_sortOf_62 (by decide) ?_
  refine V_ireturn dX4_sortOf_63 ⟨_, rfl, vp_nar_int _⟩ ?_
  rw [pSo, if_neg e0, if_neg e1, if_neg e2, if_neg e3, if_neg e4] at hQ
  exact hQ
end KC
