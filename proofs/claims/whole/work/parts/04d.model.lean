section KM
variable {d : Nat} {b : Nat × Nat} {Y : xY} {G : xG} {N : xM} {S : xT} {f : Nat → Int32} {Q : Option xAV → xY → xG → xM → Prop} {c : Nat}
def rI1 (f : Nat → Int32) (i : Nat) : Nat → Int32 := if f (49 + i) = nI 10 then (if f 0 < f (61 + i) then f else upd f (49 + i) (nI 0)) else f
def rI (f : Nat → Int32) : Nat → Nat → Int32
  | 0 => f
  | i + 1 => rI1 (rI f i) i
def rRun (f : Nat → Int32) : Nat → Int32
  | 0 => nI 0
  | i + 1 => if nI 8 ≤ rI f (i + 1) (49 + i) then rRun f i ||| nI 0 else rRun f i ||| (nI 1 <<< (nI i &&& 31))
def rG1 (o so : Nat → Int32) (mv : Int32) (f : Nat → Int32) (i : Nat) : Nat → Int32 := if (mv >>> (nI i &&& 31)) &&& nI 1 = nI 1 then rLeave o so f i else f
def rG (o so : Nat → Int32) (mv : Int32) (f : Nat → Int32) : Nat → Nat → Int32
  | 0 => f
  | i + 1 => rG1 o so mv (rG o so mv f i) i
def rT1 (f : Nat → Int32) : Nat → Int32 := upd f 0 (f 0 + nI 1)
def rTick (o so : Nat → Int32) (mb : Nat) (f : Nat → Int32) : Nat → Int32 := rT1 (rG o so (rRun f mb) (rI f mb) mb)
def rSafe (o so : Nat → Int32) (mb : Nat) (f : Nat → Int32) : Prop := ∀ i, i < mb → (rRun f mb >>> (nI i &&& 31)) &&& nI 1 = nI 1 → ∃ p, p < 8 ∧ rG o so (rRun f mb) (rI f mb) i (49 + i) = nI p ∧ (¬ rG o so (rRun f mb) (rI f mb) i (25 + p) = -1000000 → ∃ m2, m2 < 18 ∧ rG o so (rRun f mb) (rI f mb) i (25 + p) = nI m2)
theorem kX7_tickOn (hM : xMo Y G) (h0 : 0 ≠ c) (h11 : 11 ≠ c) (hc : ((40, c), (1, 67)) ∈ Y) {mb : Nat} (hmb : S 0 8 = nI mb) (hm6 : mb ≤ 6) (hs : rSafe (S 0) (S 11) mb f) (hQ : Q none Y G (va_up N 40 (va_up S c (rTick (S 0) (S 11) mb f)))) : V RX7 false cX7_tickOn 4 none none (d + 2) b 0 [some (xR 40 0), some (xR 40 c), none, none] [] Y G (va_up N 40 (va_up S c f)) Q := by
  refine V_iconst (v := nI 0) dX7_tickOn_0 (by decide) ?_
  refine V_ist2 dX7_tickOn_1 rfl ?_
  refine V_iconst (v := nI 0) dX7_tickOn_2 (by decide) ?_
  refine V_ist3 dX7_tickOn_3 rfl ?_
  refine xDown (P := fun i => V RX7 false cX7_tickOn 4 none none (d + 2) b 4 [some (xR 40 0), some (xR 40 c), some (xI (rRun f i)), some (xI (nI i))] [] Y G (va_up N 40 (va_up S c (rI f i))) Q) mb ?_ 0 (Nat.zero_le _)
  intro i hii hni
  refine V_ild3 dX7_tickOn_4 ?_
  refine V_ald0 dX7_tickOn_5 ?_
  refine V_getIs dX7_tickOn_6 flX7_74 (hM.1 0 (0, 7) rfl) h0 ?_
  refine V_eqI hmb ?_
  refine V_icmpgeN (tgt := 69) dX7_tickOn_9 (by decide) (by omega) (by omega) (fun c9 => ?_) (fun c9 => ?_)
  · skip
    rw [show i = mb by omega]
    refine V_iconst (v := nI 0) dX7_tickOn_69 (by decide) ?_
    refine V_ist3 dX7_tickOn_70 rfl ?_
    refine xDown (P := fun i => V RX7 false cX7_tickOn 4 none none (d + 2) b 71 [some (xR 40 0), some (xR 40 c), some (xI (rRun f mb)), some (xI (nI i))] [] Y G (va_up N 40 (va_up S c (rG (S 0) (S 11) (rRun f mb) (rI f mb) i))) Q) mb ?_ 0 (Nat.zero_le _)
    intro i hii hni
    refine V_ild3 dX7_tickOn_71 ?_
    refine V_ald0 dX7_tickOn_72 ?_
    refine V_getIs dX7_tickOn_73 flX7_74 (hM.1 0 (0, 7) rfl) h0 ?_
    refine V_eqI hmb ?_
    refine V_icmpgeN (tgt := 100) dX7_tickOn_76 (by decide) (by omega) (by omega) (fun c76 => ?_) (fun c76 => ?_)
    · skip
      refine V_ald1 dX7_tickOn_100 ?_
      refine V_iconst (v := nI 0) dX7_tickOn_101 (by decide) ?_
      refine V_dup2 dX7_tickOn_102 ?_
      refine V_iac dX7_tickOn_103 hc (by omega) (by decide) ?_
      refine V_iconst (v := nI 1) dX7_tickOn_104 (by decide) ?_
      refine V_iadd dX7_tickOn_105 ?_
      refine V_iasc dX7_tickOn_106 hc (by omega) (by decide) ?_
      refine V_return dX7_tickOn_107 rfl ?_
      rw [rTick] at hQ
      rw [show i = mb by omega]
      exact hQ
    · skip
      refine V_ild2 dX7_tickOn_79 ?_
      refine V_ild3 dX7_tickOn_80 ?_
      refine V_ishr dX7_tickOn_81 ?_
      refine V_iconst (v := nI 1) dX7_tickOn_82 (by decide) ?_
      refine V_iand dX7_tickOn_83 ?_
      refine V_iconst (v := nI 1) dX7_tickOn_84 (by decide) ?_
      refine V_icmpne (tgt := 94) dX7_tickOn_85 (by decide) (fun c85 => ?_) (fun c85 => ?_)
      · skip
        refine V_incN3 dX7_tickOn_94 rfl ?_
        refine V_goto (tgt := 71) dX7_tickOn_97 (by decide) ?_
        have hni := hni (by omega)
        rw [rG, rG1, if_neg c85] at hni
        exact hni
      · skip
        obtain ⟨p, hp8, hp, hh⟩ := hs i (by omega) c85
        refine V_ald0 dX7_tickOn_88 ?_
        refine V_ald1 dX7_tickOn_89 ?_
        refine V_ild3 dX7_tickOn_90 ?_
        refine V_iv2 dX7_tickOn_91 wlX7_169 mdX7_leaves miX7_leaves rfl (hM.1 0 (0, 7) rfl) rfl rfl (kX7_leaves hM h0 h11 hc (by omega) hp8 hp hh ⟨rfl, ?_⟩)
        refine V_incN3 dX7_tickOn_94 rfl ?_
        refine V_goto (tgt := 71) dX7_tickOn_97 (by decide) ?_
        have hni := hni (by omega)
        rw [rG, rG1, if_pos c85] at hni
        exact hni
  · skip
    refine V_ald1 dX7_tickOn_12 ?_
    refine V_bipush (v := nI 49) dX7_tickOn_13 (by decide) ?_
    refine V_ild3 dX7_tickOn_15 ?_
    refine V_iaddN dX7_tickOn_16 ?_
    refine V_iac dX7_tickOn_17 hc (by omega) (by decide) ?_
    refine V_bipush (v := nI 10) dX7_tickOn_18 (by decide) ?_
    refine V_icmpne (tgt := 42) dX7_tickOn_20 (by decide) (fun c20 => ?_) (fun c20 => ?_)
    · skip
      refine V_eqN (N' := va_up N 40 (va_up S c (rI f (i + 1)))) (by rw [rI, rI1, if_neg c20]) ?_
      refine V_ild2 dX7_tickOn_42 ?_
      refine V_ald1 dX7_tickOn_43 ?_
      refine V_bipush (v := nI 49) dX7_tickOn_44 (by decide) ?_
      refine V_ild3 dX7_tickOn_46 ?_
      refine V_iaddN dX7_tickOn_47 ?_
      refine V_iac dX7_tickOn_48 hc (by omega) (by decide) ?_
      refine V_bipush (v := nI 8) dX7_tickOn_49 (by decide) ?_
      refine V_icmpge (tgt := 60) dX7_tickOn_51 (by decide) (fun c51 => ?_) (fun c51 => ?_)
      · skip
        refine V_iconst (v := nI 0) dX7_tickOn_60 (by decide) ?_
        refine V_ior dX7_tickOn_61 ?_
        refine V_ist2 dX7_tickOn_62 rfl ?_
        refine V_incN3 dX7_tickOn_63 rfl ?_
        refine V_goto (tgt := 4) dX7_tickOn_66 (by decide) ?_
        have hni := hni (by omega)
        rw [rRun, if_pos c51] at hni
        exact hni
      · skip
        refine V_iconst (v := nI 1) dX7_tickOn_54 (by decide) ?_
        refine V_ild3 dX7_tickOn_55 ?_
        refine V_ishl dX7_tickOn_56 ?_
        refine V_goto (tgt := 61) dX7_tickOn_57 (by decide) ?_
        refine V_ior dX7_tickOn_61 ?_
        refine V_ist2 dX7_tickOn_62 rfl ?_
        refine V_incN3 dX7_tickOn_63 rfl ?_
        refine V_goto (tgt := 4) dX7_tickOn_66 (by decide) ?_
        have hni := hni (by omega)
        rw [rRun, if_neg c51] at hni
        exact hni
    · skip
      refine V_ald1 dX7_tickOn_23 ?_
      refine V_bipush (v := nI 61) dX7_tickOn_24 (by decide) ?_
      refine V_ild3 dX7_tickOn_26 ?_
      refine V_iaddN dX7_tickOn_27 ?_
      refine V_iac dX7_tickOn_28 hc (by omega) (by decide) ?_
      refine V_ald1 dX7_tickOn_29 ?_
      refine V_iconst (v := nI 0) dX7_tickOn_30 (by decide) ?_
      refine V_iac dX7_tickOn_31 hc (by omega) (by decide) ?_
      refine V_icmpgt (tgt := 42) dX7_tickOn_32 (by decide) (fun c32 => ?_) (fun c32 => ?_)
      · skip
        refine V_eqN (N' := va_up N 40 (va_up S c (rI f (i + 1)))) (by rw [rI, rI1, if_pos c20, if_pos c32]) ?_
        refine V_ild2 dX7_tickOn_42 ?_
        refine V_ald1 dX7_tickOn_43 ?_
        refine V_bipush (v := nI 49) dX7_tickOn_44 (by decide) ?_
        refine V_ild3 dX7_tickOn_46 ?_
        refine V_iaddN dX7_tickOn_47 ?_
        refine V_iac dX7_tickOn_48 hc (by omega) (by decide) ?_
        refine V_bipush (v := nI 8) dX7_tickOn_49 (by decide) ?_
        refine V_icmpge (tgt := 60) dX7_tickOn_51 (by decide) (fun c51 => ?_) (fun c51 => ?_)
        · skip
          refine V_iconst (v := nI 0) dX7_tickOn_60 (by decide) ?_
          refine V_ior dX7_tickOn_61 ?_
          refine V_ist2 dX7_tickOn_62 rfl ?_
          refine V_incN3 dX7_tickOn_63 rfl ?_
          refine V_goto (tgt := 4) dX7_tickOn_66 (by decide) ?_
          have hni := hni (by omega)
          rw [rRun, if_pos c51] at hni
          exact hni
        · skip
          refine V_iconst (v := nI 1) dX7_tickOn_54 (by decide) ?_
          refine V_ild3 dX7_tickOn_55 ?_
          refine V_ishl dX7_tickOn_56 ?_
          refine V_goto (tgt := 61) dX7_tickOn_57 (by decide) ?_
          refine V_ior dX7_tickOn_61 ?_
          refine V_ist2 dX7_tickOn_62 rfl ?_
          refine V_incN3 dX7_tickOn_63 rfl ?_
          refine V_goto (tgt := 4) dX7_tickOn_66 (by decide) ?_
          have hni := hni (by omega)
          rw [rRun, if_neg c51] at hni
          exact hni
      · skip
        refine V_ald1 dX7_tickOn_35 ?_
        refine V_bipush (v := nI 49) dX7_tickOn_36 (by decide) ?_
        refine V_ild3 dX7_tickOn_38 ?_
        refine V_iaddN dX7_tickOn_39 ?_
        refine V_iconst (v := nI 0) dX7_tickOn_40 (by decide) ?_
        refine V_iasc dX7_tickOn_41 hc (by omega) (by decide) ?_
        refine V_eqN (N' := va_up N 40 (va_up S c (rI f (i + 1)))) (by rw [rI, rI1, if_pos c20, if_neg c32]) ?_
        refine V_ild2 dX7_tickOn_42 ?_
        refine V_ald1 dX7_tickOn_43 ?_
        refine V_bipush (v := nI 49) dX7_tickOn_44 (by decide) ?_
        refine V_ild3 dX7_tickOn_46 ?_
        refine V_iaddN dX7_tickOn_47 ?_
        refine V_iac dX7_tickOn_48 hc (by omega) (by decide) ?_
        refine V_bipush (v := nI 8) dX7_tickOn_49 (by decide) ?_
        refine V_icmpge (tgt := 60) dX7_tickOn_51 (by decide) (fun c51 => ?_) (fun c51 => ?_)
        · skip
          refine V_iconst (v := nI 0) dX7_tickOn_60 (by decide) ?_
          refine V_ior dX7_tickOn_61 ?_
          refine V_ist2 dX7_tickOn_62 rfl ?_
          refine V_incN3 dX7_tickOn_63 rfl ?_
          refine V_goto (tgt := 4) dX7_tickOn_66 (by decide) ?_
          have hni := hni (by omega)
          rw [rRun, if_pos c51] at hni
          exact hni
        · skip
          refine V_iconst (v := nI 1) dX7_tickOn_54 (by decide) ?_
          refine V_ild3 dX7_tickOn_55 ?_
          refine V_ishl dX7_tickOn_56 ?_
          refine V_goto (tgt := 61) dX7_tickOn_57 (by decide) ?_
          refine V_ior dX7_tickOn_61 ?_
          refine V_ist2 dX7_tickOn_62 rfl ?_
          refine V_incN3 dX7_tickOn_63 rfl ?_
          refine V_goto (tgt := 4) dX7_tickOn_66 (by decide) ?_
          have hni := hni (by omega)
          rw [rRun, if_neg c51] at hni
          exact hni
end KM
