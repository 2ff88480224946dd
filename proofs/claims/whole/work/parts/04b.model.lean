section KM
variable {d : Nat} {b : Nat × Nat} {Y : xY} {G : xG} {N : xM} {S : xT} {f : Nat → Int32} {Q : Option xAV → xY → xG → xM → Prop} {c : Nat}
abbrev rIn (v a z : Int32) : Prop := ¬ (v < a) ∧ ¬ (z < v)
theorem kX7_in {v a z : Int32} (hQ : Q (some (xI (if rIn v a z then 1 else 0))) Y G N) : V RX7 false cX7_in 3 (some .boolean) none d b 0 [some (xI v), some (xI a), some (xI z)] [] Y G N Q := by
  refine V_ild0 dX7_in_0 ?_
  refine V_ild1 dX7_in_1 ?_
  refine V_icmplt (tgt := 14) dX7_in_2 (by decide) (fun c2 => ?_) (fun c2 => ?_)
  · skip
    refine V_iconst (v := 0) dX7_in_14 (by decide) ?_
    refine V_ireturn dX7_in_15 ⟨_, rfl, xbool (by first | exact Or.inl rfl | exact Or.inr rfl | exact xite01 _)⟩ ?_
    rw [if_neg (fun h => h.1 c2)] at hQ
    exact hQ
  · skip
    refine V_ild0 dX7_in_5 ?_
    refine V_ild2 dX7_in_6 ?_
    refine V_icmpgt (tgt := 14) dX7_in_7 (by decide) (fun c7 => ?_) (fun c7 => ?_)
    · skip
      refine V_iconst (v := 0) dX7_in_14 (by decide) ?_
      refine V_ireturn dX7_in_15 ⟨_, rfl, xbool (by first | exact Or.inl rfl | exact Or.inr rfl | exact xite01 _)⟩ ?_
      rw [if_neg (fun h => h.2 c7)] at hQ
      exact hQ
    · skip
      refine V_iconst (v := 1) dX7_in_10 (by decide) ?_
      refine V_goto (tgt := 15) dX7_in_11 (by decide) ?_
      refine V_ireturn dX7_in_15 ⟨_, rfl, xbool (by first | exact Or.inl rfl | exact Or.inr rfl | exact xite01 _)⟩ ?_
      rw [if_pos ⟨c2, c7⟩] at hQ
      exact hQ
def rBits (x : Int32) : Nat → Int32
  | 0 => nI 0
  | i + 1 => rBits x i + ((x >>> (nI i &&& 31)) &&& nI 1)
theorem kX7_bits {x : Int32} (hQ : Q (some (xI (rBits x 8))) Y G N) : V RX7 false cX7_bits 3 (some .int) none d b 0 [some (xI x), none, none] [] Y G N Q := by
  refine V_iconst (v := nI 0) dX7_bits_0 (by decide) ?_
  refine V_ist1 dX7_bits_1 rfl ?_
  refine V_iconst (v := nI 0) dX7_bits_2 (by decide) ?_
  refine V_ist2 dX7_bits_3 rfl ?_
  refine xDown (P := fun i => V RX7 false cX7_bits 3 (some .int) none d b 4 [some (xI x), some (xI (rBits x i)), some (xI (nI i))] [] Y G N Q) 8 ?_ 0 (Nat.zero_le _)
  intro i hii hni
  refine V_ild2 dX7_bits_4 ?_
  refine V_bipush (v := nI 8) dX7_bits_5 (by decide) ?_
  refine V_icmpgeN (tgt := 24) dX7_bits_7 (by decide) (by omega) (by omega) (fun c7 => ?_) (fun c7 => ?_)
  · skip
    refine V_ild1 dX7_bits_24 ?_
    refine V_ireturn dX7_bits_25 ⟨_, rfl, vp_nar_int _⟩ ?_
    rw [show (8 : Nat) = i by omega] at hQ
    exact hQ
  · skip
    refine V_ild1 dX7_bits_10 ?_
    refine V_ild0 dX7_bits_11 ?_
    refine V_ild2 dX7_bits_12 ?_
    refine V_ishr dX7_bits_13 ?_
    refine V_iconst (v := nI 1) dX7_bits_14 (by decide) ?_
    refine V_iand dX7_bits_15 ?_
    refine V_iadd dX7_bits_16 ?_
    refine V_ist1 dX7_bits_17 rfl ?_
    refine V_incN2 dX7_bits_18 rfl ?_
    refine V_goto (tgt := 4) dX7_bits_21 (by decide) ?_
    exact hni (by omega)
def rCut (l v : Int32) : Int32 := if l = 0 then (v <<< (nI 24 &&& 31)) >>> (nI 24 &&& 31) else if l = nI 1 then (v <<< (nI 16 &&& 31)) >>> (nI 16 &&& 31) else v
theorem kX7_cut {l v : Int32} (hQ : Q (some (xI (rCut l v))) Y G N) : V RX7 false cX7_cut 2 (some .int) none d b 0 [some (xI l), some (xI v)] [] Y G N Q := by
  refine V_ild0 dX7_cut_0 ?_
  refine V_ifne (tgt := 14) dX7_cut_1 (by decide) (fun c1 => ?_) (fun c1 => ?_)
  · skip
    refine V_ild0 dX7_cut_14 ?_
    refine V_iconst (v := nI 1) dX7_cut_15 (by decide) ?_
    refine V_icmpne (tgt := 29) dX7_cut_16 (by decide) (fun c16 => ?_) (fun c16 => ?_)
    · skip
      refine V_ild1 dX7_cut_29 ?_
      refine V_ireturn dX7_cut_30 ⟨_, rfl, vp_nar_int _⟩ ?_
      rw [rCut, if_neg c1, if_neg c16] at hQ
      exact hQ
    · skip
      refine V_ild1 dX7_cut_19 ?_
      refine V_bipush (v := nI 16) dX7_cut_20 (by decide) ?_
      refine V_ishl dX7_cut_22 ?_
      refine V_bipush (v := nI 16) dX7_cut_23 (by decide) ?_
      refine V_ishr dX7_cut_25 ?_
      refine V_goto (tgt := 30) dX7_cut_26 (by decide) ?_
      refine V_ireturn dX7_cut_30 ⟨_, rfl, vp_nar_int _⟩ ?_
      rw [rCut, if_neg c1, if_pos c16] at hQ
      exact hQ
  · skip
    refine V_ild1 dX7_cut_4 ?_
    refine V_bipush (v := nI 24) dX7_cut_5 (by decide) ?_
    refine V_ishl dX7_cut_7 ?_
    refine V_bipush (v := nI 24) dX7_cut_8 (by decide) ?_
    refine V_ishr dX7_cut_10 ?_
    refine V_goto (tgt := 30) dX7_cut_11 (by decide) ?_
    refine V_ireturn dX7_cut_30 ⟨_, rfl, vp_nar_int _⟩ ?_
    rw [rCut, if_pos c1] at hQ
    exact hQ
abbrev rPart (i n a : Int32) : Prop := ¬ i < 0 ∧ ¬ n < 0 ∧ ¬ a < n ∧ ¬ a - n < i
theorem kX7_isPart {i n a : Int32} (hQ : Q (some (xI (if rPart i n a then 1 else 0))) Y G N) : V RX7 false cX7_isPart 3 (some .boolean) none d b 0 [some (xI i), some (xI n), some (xI a)] [] Y G N Q := by
  refine V_ild0 dX7_isPart_0 ?_
  refine V_iflt (tgt := 24) dX7_isPart_1 (by decide) (fun c1 => ?_) (fun c1 => ?_)
  · skip
    refine V_iconst (v := 0) dX7_isPart_24 (by decide) ?_
    refine V_ireturn dX7_isPart_25 ⟨_, rfl, xbool (by first | exact Or.inl rfl | exact Or.inr rfl | exact xite01 _)⟩ ?_
    rw [if_neg (fun h => h.1 c1)] at hQ
    exact hQ
  · skip
    refine V_ild1 dX7_isPart_4 ?_
    refine V_iflt (tgt := 24) dX7_isPart_5 (by decide) (fun c5 => ?_) (fun c5 => ?_)
    · skip
      refine V_iconst (v := 0) dX7_isPart_24 (by decide) ?_
      refine V_ireturn dX7_isPart_25 ⟨_, rfl, xbool (by first | exact Or.inl rfl | exact Or.inr rfl | exact xite01 _)⟩ ?_
      rw [if_neg (fun h => h.2.1 c5)] at hQ
      exact hQ
    · skip
      refine V_ild1 dX7_isPart_8 ?_
      refine V_ild2 dX7_isPart_9 ?_
      refine V_icmpgt (tgt := 24) dX7_isPart_10 (by decide) (fun c10 => ?_) (fun c10 => ?_)
      · skip
        refine V_iconst (v := 0) dX7_isPart_24 (by decide) ?_
        refine V_ireturn dX7_isPart_25 ⟨_, rfl, xbool (by first | exact Or.inl rfl | exact Or.inr rfl | exact xite01 _)⟩ ?_
        rw [if_neg (fun h => h.2.2.1 c10)] at hQ
        exact hQ
      · skip
        refine V_ild0 dX7_isPart_13 ?_
        refine V_ild2 dX7_isPart_14 ?_
        refine V_ild1 dX7_isPart_15 ?_
        refine V_isub dX7_isPart_16 ?_
        refine V_icmpgt (tgt := 24) dX7_isPart_17 (by decide) (fun c17 => ?_) (fun c17 => ?_)
        · skip
          refine V_iconst (v := 0) dX7_isPart_24 (by decide) ?_
          refine V_ireturn dX7_isPart_25 ⟨_, rfl, xbool (by first | exact Or.inl rfl | exact Or.inr rfl | exact xite01 _)⟩ ?_
          rw [if_neg (fun h => h.2.2.2 c17)] at hQ
          exact hQ
        · skip
          refine V_iconst (v := 1) dX7_isPart_20 (by decide) ?_
          refine V_goto (tgt := 25) dX7_isPart_21 (by decide) ?_
          refine V_ireturn dX7_isPart_25 ⟨_, rfl, xbool (by first | exact Or.inl rfl | exact Or.inr rfl | exact xite01 _)⟩ ?_
          rw [if_pos ⟨c1, c5, c10, c17⟩] at hQ
          exact hQ
def rFound (S : xT) (v : Int32) : xT := va_up S 0 (upd (S 0) 3 v)
theorem kX7_finds (hM : xMo Y G) {v : Int32} (hQ : Q (some (xI (-1000010 - v))) Y G (va_up N 40 (rFound S v))) : V RX7 false cX7_finds 2 (some .int) none d b 0 [some (xR 40 0), some (xI v)] [] Y G (va_up N 40 S) Q := by
  refine V_ald0 dX7_finds_0 ?_
  refine V_ild1 dX7_finds_1 ?_
  refine V_putIr dX7_finds_2 fwX7_65 (hM.1 0 (0, 7) rfl) ?_
  refine V_ldc dX7_finds_5 wkX7_69 ?_
  refine V_ild1 dX7_finds_7 ?_
  refine V_isub dX7_finds_8 ?_
  refine V_ireturn dX7_finds_9 ⟨_, rfl, vp_nar_int _⟩ ?_
  exact hQ
theorem kX7_isRow {v : Int32} (hQ : Q (some (xI (if rIn v (nI 0) (nI 7) then 1 else 0))) Y G N) : V RX7 false cX7_isRow 2 (some .boolean) none (d + 1) b 0 [some (xR 40 0), some (xI v)] [] Y G N Q := by
  refine V_ild1 dX7_isRow_0 ?_
  refine V_iconst (v := nI 0) dX7_isRow_1 (by decide) ?_
  refine V_bipush (v := nI 7) dX7_isRow_2 (by decide) ?_
  refine V_is3 dX7_isRow_4 wlX7_70 mdX7_in msX7_in rfl rfl (kX7_in ⟨rfl, ?_⟩)
  refine V_ireturn dX7_isRow_7 ⟨_, rfl, xbool (by first | exact Or.inl rfl | exact Or.inr rfl | exact xite01 _)⟩ ?_
  exact hQ
theorem kX7_isMarble (hM : xMo Y G) {v : Int32} (hQ : Q (some (xI (if rIn v (nI 0) (S 0 8 - nI 1) then 1 else 0))) Y G (va_up N 40 S)) : V RX7 false cX7_isMarble 2 (some .boolean) none (d + 1) b 0 [some (xR 40 0), some (xI v)] [] Y G (va_up N 40 S) Q := by
  refine V_ild1 dX7_isMarble_0 ?_
  refine V_iconst (v := nI 0) dX7_isMarble_1 (by decide) ?_
  refine V_ald0 dX7_isMarble_2 ?_
  refine V_getIr dX7_isMarble_3 flX7_74 (hM.1 0 (0, 7) rfl) ?_
  refine V_iconst (v := nI 1) dX7_isMarble_6 (by decide) ?_
  refine V_isub dX7_isMarble_7 ?_
  refine V_is3 dX7_isMarble_8 wlX7_70 mdX7_in msX7_in rfl rfl (kX7_in ⟨rfl, ?_⟩)
  refine V_ireturn dX7_isMarble_11 ⟨_, rfl, xbool (by first | exact Or.inl rfl | exact Or.inr rfl | exact xite01 _)⟩ ?_
  exact hQ
theorem kX7_isPiece (hM : xMo Y G) {v : Int32} (hQ : Q (some (xI (if rIn v (nI 0) (S 0 9 - nI 1) then 1 else 0))) Y G (va_up N 40 S)) : V RX7 false cX7_isPiece 2 (some .boolean) none (d + 1) b 0 [some (xR 40 0), some (xI v)] [] Y G (va_up N 40 S) Q := by
  refine V_ild1 dX7_isPiece_0 ?_
  refine V_iconst (v := nI 0) dX7_isPiece_1 (by decide) ?_
  refine V_ald0 dX7_isPiece_2 ?_
  refine V_getIr dX7_isPiece_3 flX7_77 (hM.1 0 (0, 7) rfl) ?_
  refine V_iconst (v := nI 1) dX7_isPiece_6 (by decide) ?_
  refine V_isub dX7_isPiece_7 ?_
  refine V_is3 dX7_isPiece_8 wlX7_70 mdX7_in msX7_in rfl rfl (kX7_in ⟨rfl, ?_⟩)
  refine V_ireturn dX7_isPiece_11 ⟨_, rfl, xbool (by first | exact Or.inl rfl | exact Or.inr rfl | exact xite01 _)⟩ ?_
  exact hQ
theorem kX7_isNone (hM : xMo Y G) (hQ : Q (some (xI (if S 0 9 = 0 then 1 else 0))) Y G (va_up N 40 S)) : V RX7 false cX7_isNone 1 (some .boolean) none d b 0 [some (xR 40 0)] [] Y G (va_up N 40 S) Q := by
  refine V_ald0 dX7_isNone_0 ?_
  refine V_getIr dX7_isNone_1 flX7_77 (hM.1 0 (0, 7) rfl) ?_
  refine V_ifne (tgt := 11) dX7_isNone_4 (by decide) (fun c4 => ?_) (fun c4 => ?_)
  · skip
    refine V_iconst (v := 0) dX7_isNone_11 (by decide) ?_
    refine V_ireturn dX7_isNone_12 ⟨_, rfl, xbool (by first | exact Or.inl rfl | exact Or.inr rfl | exact xite01 _)⟩ ?_
    rw [if_neg c4] at hQ
    exact hQ
  · skip
    refine V_iconst (v := 1) dX7_isNone_7 (by decide) ?_
    refine V_goto (tgt := 12) dX7_isNone_8 (by decide) ?_
    refine V_ireturn dX7_isNone_12 ⟨_, rfl, xbool (by first | exact Or.inl rfl | exact Or.inr rfl | exact xite01 _)⟩ ?_
    rw [if_pos c4] at hQ
    exact hQ
def rBring (g f : Nat → Int32) (i j : Nat) : Nat → Nat → Int32
  | 0 => f
  | k + 1 => upd (rBring g f i j k) (j + k) (g (i + k))
def rTo (o : Nat → Int32) (to : Int32) : Int32 := if nI 8 ≤ to then to else if to < o 9 then to else nI 8
theorem kX7_sends (hM : xMo Y G) (h0 : 0 ≠ c) (hc : ((40, c), (1, 67)) ∈ Y) {m : Nat} (hm : m < 18) {to : Int32} (hQ : Q none Y G (va_up N 40 (va_up S c (upd f (49 + m) (rTo (S 0) to))))) : V RX7 false cX7_sends 4 none none d b 0 [some (xR 40 0), some (xR 40 c), some (xI (nI m)), some (xI to)] [] Y G (va_up N 40 (va_up S c f)) Q := by
  refine V_ald1 dX7_sends_0 ?_
  refine V_bipush (v := nI 49) dX7_sends_1 (by decide) ?_
  refine V_ild2 dX7_sends_3 ?_
  refine V_iaddN dX7_sends_4 ?_
  refine V_ild3 dX7_sends_5 ?_
  refine V_bipush (v := nI 8) dX7_sends_6 (by decide) ?_
  refine V_icmpge (tgt := 24) dX7_sends_8 (by decide) (fun c8 => ?_) (fun c8 => ?_)
  · skip
    refine V_ild3 dX7_sends_24 ?_
    refine V_iasc dX7_sends_25 hc (by omega) (by decide) ?_
    refine V_return dX7_sends_26 rfl ?_
    rw [rTo, if_pos c8] at hQ
    exact hQ
  · skip
    refine V_ild3 dX7_sends_11 ?_
    refine V_ald0 dX7_sends_12 ?_
    refine V_getIs dX7_sends_13 flX7_77 (hM.1 0 (0, 7) rfl) h0 ?_
    refine V_icmplt (tgt := 24) dX7_sends_16 (by decide) (fun c16 => ?_) (fun c16 => ?_)
    · skip
      refine V_ild3 dX7_sends_24 ?_
      refine V_iasc dX7_sends_25 hc (by omega) (by decide) ?_
      refine V_return dX7_sends_26 rfl ?_
      rw [rTo, if_neg c8, if_pos c16] at hQ
      exact hQ
    · skip
      refine V_bipush (v := nI 8) dX7_sends_19 (by decide) ?_
      refine V_goto (tgt := 25) dX7_sends_21 (by decide) ?_
      refine V_iasc dX7_sends_25 hc (by omega) (by decide) ?_
      refine V_return dX7_sends_26 rfl ?_
      rw [rTo, if_neg c8, if_neg c16] at hQ
      exact hQ
def rThose (f : Nat → Int32) (a z : Int32) : Nat → Int32
  | 0 => nI 0
  | i + 1 => if rIn (f (49 + i)) a z then rThose f a z i ||| (nI 1 <<< (nI i &&& 31)) else rThose f a z i ||| nI 0
theorem kX7_those (hM : xMo Y G) (h0 : 0 ≠ c) (hc : ((40, c), (1, 67)) ∈ Y) {mb : Nat} (hmb : S 0 8 = nI mb) (hm6 : mb ≤ 6) {a z : Int32} (hQ : Q (some (xI (rThose f a z mb))) Y G (va_up N 40 (va_up S c f))) : V RX7 false cX7_those 6 (some .int) none (d + 1) b 0 [some (xR 40 0), some (xR 40 c), some (xI a), some (xI z), none, none] [] Y G (va_up N 40 (va_up S c f)) Q := by
  refine V_iconst (v := nI 0) dX7_those_0 (by decide) ?_
  refine V_ist4 dX7_those_1 rfl ?_
  refine V_iconst (v := nI 0) dX7_those_3 (by decide) ?_
  refine V_ist5 dX7_those_4 rfl ?_
  refine xDown (P := fun i => V RX7 false cX7_those 6 (some .int) none (d + 1) b 6 [some (xR 40 0), some (xR 40 c), some (xI a), some (xI z), some (xI (rThose f a z i)), some (xI (nI i))] [] Y G (va_up N 40 (va_up S c f)) Q) mb ?_ 0 (Nat.zero_le _)
  intro i hii hni
  refine V_ild5 dX7_those_6 ?_
  refine V_ald0 dX7_those_8 ?_
  refine V_getIs dX7_those_9 flX7_74 (hM.1 0 (0, 7) rfl) h0 ?_
  refine V_eqI hmb ?_
  refine V_icmpgeN (tgt := 49) dX7_those_12 (by decide) (by omega) (by omega) (fun c12 => ?_) (fun c12 => ?_)
  · skip
    refine V_ild4 dX7_those_49 ?_
    refine V_ireturn dX7_those_51 ⟨_, rfl, vp_nar_int _⟩ ?_
    rw [show mb = i by omega] at hQ
    exact hQ
  · skip
    refine V_ild4 dX7_those_15 ?_
    refine V_ald1 dX7_those_17 ?_
    refine V_bipush (v := nI 49) dX7_those_18 (by decide) ?_
    refine V_ild5 dX7_those_20 ?_
    refine V_iaddN dX7_those_22 ?_
    refine V_iac dX7_those_23 hc (by omega) (by decide) ?_
    refine V_ild2 dX7_those_24 ?_
    refine V_ild3 dX7_those_25 ?_
    refine V_is3 dX7_those_26 wlX7_70 mdX7_in msX7_in rfl rfl (kX7_in ⟨rfl, ?_⟩)
    refine V_ifeqB (tgt := 39) dX7_those_29 (by decide) (fun c29 => ?_) (fun c29 => ?_)
    · skip
      refine V_iconst (v := nI 0) dX7_those_39 (by decide) ?_
      refine V_ior dX7_those_40 ?_
      refine V_ist4 dX7_those_41 rfl ?_
      refine V_incN5 dX7_those_43 rfl ?_
      refine V_goto (tgt := 6) dX7_those_46 (by decide) ?_
      have hni := hni (by omega)
      rw [rThose, if_neg c29] at hni
      exact hni
    · skip
      refine V_iconst (v := nI 1) dX7_those_32 (by decide) ?_
      refine V_ild5 dX7_those_33 ?_
      refine V_ishl dX7_those_35 ?_
      refine V_goto (tgt := 40) dX7_those_36 (by decide) ?_
      refine V_ior dX7_those_40 ?_
      refine V_ist4 dX7_those_41 rfl ?_
      refine V_incN5 dX7_those_43 rfl ?_
      refine V_goto (tgt := 6) dX7_those_46 (by decide) ?_
      have hni := hni (by omega)
      rw [rThose, if_pos c29] at hni
      exact hni
abbrev rInTray (f : Nat → Int32) (m : Nat) : Prop := f (49 + m) = nI 8 ∨ f (49 + m) = nI 9
theorem kX7_isInTray (hc : ((40, c), (1, 67)) ∈ Y) {m : Nat} (hm : m < 6) (hQ : Q (some (xI (if rInTray f m then 1 else 0))) Y G (va_up N 40 (va_up S c f))) : V RX7 false cX7_isInTray 3 (some .boolean) none d b 0 [some (xR 40 0), some (xR 40 c), some (xI (nI m))] [] Y G (va_up N 40 (va_up S c f)) Q := by
  refine V_ald1 dX7_isInTray_0 ?_
  refine V_bipush (v := nI 49) dX7_isInTray_1 (by decide) ?_
  refine V_ild2 dX7_isInTray_3 ?_
  refine V_iaddN dX7_isInTray_4 ?_
  refine V_iac dX7_isInTray_5 hc (by omega) (by decide) ?_
  refine V_bipush (v := nI 8) dX7_isInTray_6 (by decide) ?_
  refine V_icmpeq (tgt := 22) dX7_isInTray_8 (by decide) (fun c8 => ?_) (fun c8 => ?_)
  · skip
    refine V_iconst (v := 1) dX7_isInTray_22 (by decide) ?_
    refine V_goto (tgt := 27) dX7_isInTray_23 (by decide) ?_
    refine V_ireturn dX7_isInTray_27 ⟨_, rfl, xbool (by first | exact Or.inl rfl | exact Or.inr rfl | exact xite01 _)⟩ ?_
    rw [if_pos (Or.inl c8)] at hQ
    exact hQ
  · skip
    refine V_ald1 dX7_isInTray_11 ?_
    refine V_bipush (v := nI 49) dX7_isInTray_12 (by decide) ?_
    refine V_ild2 dX7_isInTray_14 ?_
    refine V_iaddN dX7_isInTray_15 ?_
    refine V_iac dX7_isInTray_16 hc (by omega) (by decide) ?_
    refine V_bipush (v := nI 9) dX7_isInTray_17 (by decide) ?_
    refine V_icmpne (tgt := 26) dX7_isInTray_19 (by decide) (fun c19 => ?_) (fun c19 => ?_)
    · skip
      refine V_iconst (v := 0) dX7_isInTray_26 (by decide) ?_
      refine V_ireturn dX7_isInTray_27 ⟨_, rfl, xbool (by first | exact Or.inl rfl | exact Or.inr rfl | exact xite01 _)⟩ ?_
      rw [if_neg (fun h => h.elim c8 c19)] at hQ
      exact hQ
    · skip
      refine V_iconst (v := 1) dX7_isInTray_22 (by decide) ?_
      refine V_goto (tgt := 27) dX7_isInTray_23 (by decide) ?_
      refine V_ireturn dX7_isInTray_27 ⟨_, rfl, xbool (by first | exact Or.inl rfl | exact Or.inr rfl | exact xite01 _)⟩ ?_
      rw [if_pos (Or.inr c19)] at hQ
      exact hQ
def rComes (f : Nat → Int32) (m : Nat) (w : Int32) : Nat → Int32 := upd (upd (upd f (49 + m) (nI 10)) (55 + m) w) (61 + m) (upd (upd f (49 + m) (nI 10)) (55 + m) w 0)
theorem kX7_comes (hc : ((40, c), (1, 67)) ∈ Y) {m : Nat} (hm : m < 6) {w : Int32} (hQ : Q none Y G (va_up N 40 (va_up S c (rComes f m w)))) : V RX7 false cX7_comes 3 none none d b 0 [some (xR 40 c), some (xI (nI m)), some (xI w)] [] Y G (va_up N 40 (va_up S c f)) Q := by
  refine V_ald0 dX7_comes_0 ?_
  refine V_bipush (v := nI 49) dX7_comes_1 (by decide) ?_
  refine V_ild1 dX7_comes_3 ?_
  refine V_iaddN dX7_comes_4 ?_
  refine V_bipush (v := nI 10) dX7_comes_5 (by decide) ?_
  refine V_iasc dX7_comes_7 hc (by omega) (by decide) ?_
  refine V_ald0 dX7_comes_8 ?_
  refine V_bipush (v := nI 55) dX7_comes_9 (by decide) ?_
  refine V_ild1 dX7_comes_11 ?_
  refine V_iaddN dX7_comes_12 ?_
  refine V_ild2 dX7_comes_13 ?_
  refine V_iasc dX7_comes_14 hc (by omega) (by decide) ?_
  refine V_ald0 dX7_comes_15 ?_
  refine V_bipush (v := nI 61) dX7_comes_16 (by decide) ?_
  refine V_ild1 dX7_comes_18 ?_
  refine V_iaddN dX7_comes_19 ?_
  refine V_ald0 dX7_comes_20 ?_
  refine V_iconst (v := nI 0) dX7_comes_21 (by decide) ?_
  refine V_iac dX7_comes_22 hc (by omega) (by decide) ?_
  refine V_iasc dX7_comes_23 hc (by omega) (by decide) ?_
  refine V_return dX7_comes_24 rfl ?_
  exact hQ
end KM
