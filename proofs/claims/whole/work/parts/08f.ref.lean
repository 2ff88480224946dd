def rThere (f : Nat → Int32) : Nat → Int32
  | 0 => nI 0
  | i + 1 => if rInTray f i then rThere f i ||| nI 0 else rThere f i ||| (nI 1 <<< (nI i &&& 31))
def rSet (th : Int32) (wv : Nat → Int32) (v : Int32) : Nat → Nat × Int32 × Int32
  | 0 => (0, th, nI 0)
  | i + 1 => if nI i &&& (th ^^^ (-1)) = 0 ∧ wv i = v then ((rSet th wv v i).1 + 1, (rSet th wv v i).2.1 &&& nI i, (rSet th wv v i).2.2 ||| nI i) else rSet th wv v i
def aSets (t : Nat × Int32 × Int32) (y : Int32) : Int32 := if y = 0 then nI t.1 else if nI t.1 = 0 then 0 else if y = nI 1 then t.2.1 else t.2.2
def rShO (n all : Int32) (f : Nat → Int32) : Nat → Int32
  | 0 => n
  | i + 1 => rShO n all f i - n * f (33 + i) / all
def rShA (f : Nat → Int32) (p : Nat) : Nat → Nat
  | 0 => 0
  | i + 1 => if i < p ∧ 0 < f (33 + i) then rShA f p i + 1 else rShA f p i
def rSh (f : Nat → Int32) (pn p : Nat) (n : Int32) : Int32 := if rWentA f pn = 0 then 0 else n * f (33 + p) / rWentA f pn + (if 0 < f (33 + p) ∧ nI (rShA f p pn) < rShO n (rWentA f pn) f pn then nI 1 else nI 0)
theorem rSet_le (th : Int32) (wv : Nat → Int32) (v : Int32) : ∀ i, (rSet th wv v i).1 ≤ i
  | 0 => Nat.le_refl _
  | i + 1 => by
    have := rSet_le th wv v i
    rw [rSet]
    split
    · exact Nat.succ_le_succ this
    · omega
section KM
variable {d : Nat} {b : Nat × Nat} {Y : xY} {G : xG} {N : xM} {S : xT} {f : Nat → Int32} {Q : Option xAV → xY → xG → xM → Prop} {c : Nat}
theorem kX7_sets (hM : xMo Y G) {mb pn : Nat} (hr : rSt S mb pn) {z y : Int32} (hQ : Q (some (xI (if nI pn = 0 then -1000002 else if rIn z (nI 0) (nI 54) ∧ rIn y (nI 0) (nI 2) then aSets (rSet (rThere (S 13) mb) (fun i => rWt (S 13) (nI i) mb) z (2 ^ mb)) y else -1000001))) Y G (va_up N 40 S)) : V RX7 false cX7_sets 8 (some .int) none (d + 1) b 0 [some (xR 40 0), some (xI z), some (xI y), none, none, none, none, none] [] Y G (va_up N 40 S) Q := by
  refine V_ald0 dX7_sets_0 ?_
  refine V_iv0 dX7_sets_1 wlX7_174 mdX7_isNone miX7_isNone rfl (hM.1 0 (0, 7) rfl) rfl rfl (kX7_isNone hM ⟨rfl, ?_⟩)
  rw [hr.2.1]
  refine V_ifeqB (tgt := 10) dX7_sets_4 (by decide) (fun c4 => ?_) (fun c4 => ?_)
  · skip
    refine V_ild1 dX7_sets_10 ?_
    refine V_iconst (v := nI 0) dX7_sets_11 (by decide) ?_
    refine V_bipush (v := nI 54) dX7_sets_12 (by decide) ?_
    refine V_is3 dX7_sets_14 wlX7_70 mdX7_in msX7_in rfl rfl (kX7_in ⟨rfl, ?_⟩)
    refine V_ifeqB (tgt := 29) dX7_sets_17 (by decide) (fun c17 => ?_) (fun c17 => ?_)
    · skip
      refine V_ldc dX7_sets_29 wkX7_84 ?_
      refine V_ireturn dX7_sets_31 ⟨_, rfl, vp_nar_int _⟩ ?_
      rw [if_neg c4, if_neg (fun h => c17 h.1)] at hQ
      exact hQ
    · skip
      refine V_ild2 dX7_sets_20 ?_
      refine V_iconst (v := nI 0) dX7_sets_21 (by decide) ?_
      refine V_iconst (v := nI 2) dX7_sets_22 (by decide) ?_
      refine V_is3 dX7_sets_23 wlX7_70 mdX7_in msX7_in rfl rfl (kX7_in ⟨rfl, ?_⟩)
      refine V_ifneB (tgt := 32) dX7_sets_26 (by decide) (fun c26 => ?_) (fun c26 => ?_)
      · skip
        obtain ⟨hm1, hk⟩ := hr.ok0 c4
        have hmb := hk.mb
        have hK2 : 2 ^ mb ≤ 64 := Nat.pow_le_pow_right (n := 2) (by decide) hmb
        rw [if_neg c4, if_pos ⟨c17, c26⟩] at hQ
        unfold aSets at hQ
        obtain ⟨K, hK⟩ : ∃ K, K = 2 ^ mb := ⟨_, rfl⟩
        rw [← hK] at hK2 hQ
        refine V_iconst (v := nI 0) dX7_sets_32 (by decide) ?_
        refine V_ist3 dX7_sets_33 rfl ?_
        refine V_iconst (v := nI 0) dX7_sets_34 (by decide) ?_
        refine V_ist4 dX7_sets_35 rfl ?_
        refine xDown (P := fun j => V RX7 false cX7_sets 8 (some .int) none (d + 1) b 37 [some (xR 40 0), some (xI z), some (xI y), some (xI (rThere (S 13) j)), some (xI (nI j)), none, none, none] [] Y G (va_up N 40 S) Q) mb ?_ 0 (Nat.zero_le _)
        intro j hij hnj
        refine V_ild4 dX7_sets_37 ?_
        refine V_ald0 dX7_sets_39 ?_
        refine V_getIr dX7_sets_40 flX7_74 (hM.1 0 (0, 7) rfl) ?_
        refine V_eqI hk.e8 ?_
        refine V_icmpgeN (tgt := 76) dX7_sets_43 (by decide) (by omega) (by omega) (fun c43 => ?_) (fun c43 => ?_)
        · skip
          rw [show j = mb by omega]
          refine V_iconst (v := nI 0) dX7_sets_76 (by decide) ?_
          refine V_ist4 dX7_sets_77 rfl ?_
          refine V_ild3 dX7_sets_79 ?_
          refine V_ist5 dX7_sets_80 rfl ?_
          refine V_iconst (v := nI 0) dX7_sets_82 (by decide) ?_
          refine V_ist6 dX7_sets_83 rfl ?_
          refine V_iconst (v := nI 0) dX7_sets_85 (by decide) ?_
          refine V_ist7 dX7_sets_86 rfl ?_
          refine xDown (P := fun q => V RX7 false cX7_sets 8 (some .int) none (d + 1) b 88 [some (xR 40 0), some (xI z), some (xI y), some (xI (rThere (S 13) mb)), some (xI (nI (rSet (rThere (S 13) mb) (fun i => rWt (S 13) (nI i) mb) z q).1)), some (xI (rSet (rThere (S 13) mb) (fun i => rWt (S 13) (nI i) mb) z q).2.1), some (xI (rSet (rThere (S 13) mb) (fun i => rWt (S 13) (nI i) mb) z q).2.2), some (xI (nI q))] [] Y G (va_up N 40 S) Q) K ?_ 0 (Nat.zero_le _)
          intro q hiq hnq
          refine V_ild7 dX7_sets_88 ?_
          refine V_iconst (v := nI 1) dX7_sets_90 (by decide) ?_
          refine V_ald0 dX7_sets_91 ?_
          refine V_getIr dX7_sets_92 flX7_74 (hM.1 0 (0, 7) rfl) ?_
          refine V_eqI hk.e8 ?_
          refine V_ishl dX7_sets_95 ?_
          rw [nI_1shl (by omega), ← hK]
          refine V_icmpgeN (tgt := 141) dX7_sets_96 (by decide) (by omega) (by omega) (fun c96 => ?_) (fun c96 => ?_)
          · skip
            rw [show K = q by omega] at hQ
            refine V_ild2 dX7_sets_141 ?_
            refine V_ifne (tgt := 150) dX7_sets_142 (by decide) (fun c142 => ?_) (fun c142 => ?_)
            · skip
              refine V_ild4 dX7_sets_150 ?_
              refine V_ifne (tgt := 159) dX7_sets_152 (by decide) (fun c152 => ?_) (fun c152 => ?_)
              · skip
                refine V_ild2 dX7_sets_159 ?_
                refine V_iconst (v := nI 1) dX7_sets_160 (by decide) ?_
                refine V_icmpne (tgt := 169) dX7_sets_161 (by decide) (fun c161 => ?_) (fun c161 => ?_)
                · skip
                  refine V_ild6 dX7_sets_169 ?_
                  refine V_ireturn dX7_sets_171 ⟨_, rfl, vp_nar_int _⟩ ?_
                  rw [if_neg c142, if_neg c152, if_neg c161] at hQ
                  exact hQ
                · skip
                  refine V_ild5 dX7_sets_164 ?_
                  refine V_goto (tgt := 171) dX7_sets_166 (by decide) ?_
                  refine V_ireturn dX7_sets_171 ⟨_, rfl, vp_nar_int _⟩ ?_
                  rw [if_neg c142, if_neg c152, if_pos c161] at hQ
                  exact hQ
              · skip
                refine V_iconst (v := 0) dX7_sets_155 (by decide) ?_
                refine V_goto (tgt := 171) dX7_sets_156 (by decide) ?_
                refine V_ireturn dX7_sets_171 ⟨_, rfl, vp_nar_int _⟩ ?_
                rw [if_neg c142, if_pos c152] at hQ
                exact hQ
            · skip
              refine V_ild4 dX7_sets_145 ?_
              refine V_goto (tgt := 171) dX7_sets_147 (by decide) ?_
              refine V_ireturn dX7_sets_171 ⟨_, rfl, vp_nar_int _⟩ ?_
              rw [if_pos c142] at hQ
              exact hQ
          · skip
            refine V_ild7 dX7_sets_99 ?_
            refine V_ild3 dX7_sets_101 ?_
            refine V_iconst (v := (-1)) dX7_sets_102 (by decide) ?_
            refine V_ixor dX7_sets_103 ?_
            refine V_iand dX7_sets_104 ?_
            refine V_ifne (tgt := 135) dX7_sets_105 (by decide) (fun c105 => ?_) (fun c105 => ?_)
            · skip
              refine V_incN7 dX7_sets_135 rfl ?_
              refine V_goto (tgt := 88) dX7_sets_138 (by decide) ?_
              have hnq := hnq (by omega)
              rw [rSet, if_neg (fun h => c105 h.1)] at hnq
              exact hnq
            · skip
              refine V_ald0 dX7_sets_108 ?_
              refine V_ild7 dX7_sets_109 ?_
              refine V_iv1 dX7_sets_111 wlX7_223 mdX7_weightOf miX7_weightOf rfl (hM.1 0 (0, 7) rfl) rfl rfl (kX7_weightOf hM hk.e8 hk.mb ⟨rfl, ?_⟩)
              refine V_ild1 dX7_sets_114 ?_
              refine V_icmpne (tgt := 135) dX7_sets_115 (by decide) (fun c115 => ?_) (fun c115 => ?_)
              · skip
                refine V_incN7 dX7_sets_135 rfl ?_
                refine V_goto (tgt := 88) dX7_sets_138 (by decide) ?_
                have hnq := hnq (by omega)
                rw [rSet, if_neg (fun h => c115 h.2)] at hnq
                exact hnq
              · skip
                refine V_incN4 dX7_sets_118 rfl ?_
                refine V_ild5 dX7_sets_121 ?_
                refine V_ild7 dX7_sets_123 ?_
                refine V_iand dX7_sets_125 ?_
                refine V_ist5 dX7_sets_126 rfl ?_
                refine V_ild6 dX7_sets_128 ?_
                refine V_ild7 dX7_sets_130 ?_
                refine V_ior dX7_sets_132 ?_
                refine V_ist6 dX7_sets_133 rfl ?_
                refine V_incN7 dX7_sets_135 rfl ?_
                refine V_goto (tgt := 88) dX7_sets_138 (by decide) ?_
                have hnq := hnq (by omega)
                rw [rSet, if_pos ⟨c105, c115⟩] at hnq
                exact hnq
        · skip
          refine V_ild3 dX7_sets_46 ?_
          refine V_ald0 dX7_sets_47 ?_
          refine V_ald0 dX7_sets_48 ?_
          refine V_getR dX7_sets_49 flX7_25 (hM.1 0 (0, 7) rfl) (show G 40 0 12 = some (40, 13) from hM.2 12 (1, 67) rfl) ?_
          refine V_ild4 dX7_sets_52 ?_
          refine V_sub 40 13 ?_
          refine V_iv2 dX7_sets_54 wlX7_195 mdX7_isInTray miX7_isInTray rfl (hM.1 0 (0, 7) rfl) rfl rfl (kX7_isInTray (c := 13) (f := S 13) (hM.1 13 (1, 67) rfl) (by omega) ⟨rfl, ?_⟩)
          rw [va_up_id]
          refine V_ifeqB (tgt := 64) dX7_sets_57 (by decide) (fun c57 => ?_) (fun c57 => ?_)
          · skip
            refine V_iconst (v := nI 1) dX7_sets_64 (by decide) ?_
            refine V_ild4 dX7_sets_65 ?_
            refine V_ishl dX7_sets_67 ?_
            refine V_ior dX7_sets_68 ?_
            refine V_ist3 dX7_sets_69 rfl ?_
            refine V_incN4 dX7_sets_70 rfl ?_
            refine V_goto (tgt := 37) dX7_sets_73 (by decide) ?_
            have hnj := hnj (by omega)
            rw [rThere, if_neg c57] at hnj
            exact hnj
          · skip
            refine V_iconst (v := nI 0) dX7_sets_60 (by decide) ?_
            refine V_goto (tgt := 68) dX7_sets_61 (by decide) ?_
            refine V_ior dX7_sets_68 ?_
            refine V_ist3 dX7_sets_69 rfl ?_
            refine V_incN4 dX7_sets_70 rfl ?_
            refine V_goto (tgt := 37) dX7_sets_73 (by decide) ?_
            have hnj := hnj (by omega)
            rw [rThere, if_pos c57] at hnj
            exact hnj
      · skip
        refine V_ldc dX7_sets_29 wkX7_84 ?_
        refine V_ireturn dX7_sets_31 ⟨_, rfl, vp_nar_int _⟩ ?_
        rw [if_neg c4, if_neg (fun h => c26 h.2)] at hQ
        exact hQ
  · skip
    refine V_ldc dX7_sets_7 wkX7_173 ?_
    refine V_ireturn dX7_sets_9 ⟨_, rfl, vp_nar_int _⟩ ?_
    rw [if_pos c4] at hQ
    exact hQ
theorem kX7_share (hM : xMo Y G) {mb pn : Nat} (hr : rSt S mb pn) {a z v : Int32} (hv : ∀ p, a = nI p → p < pn → rSh (S 13) pn p z = v) (hQ : Q (some (xI (if rIn a (nI 0) (nI pn - nI 1) ∧ rIn z (nI 0) (nI 999) then v else -1000001))) Y G (va_up N 40 S)) : V RX7 false cX7_share 7 (some .int) none (d + 2) b 0 [some (xR 40 0), some (xI a), some (xI z), none, none, none, none] [] Y G (va_up N 40 S) Q := by
  refine V_ald0 dX7_share_0 ?_
  refine V_ild1 dX7_share_1 ?_
  refine V_iv1 dX7_share_2 wlX7_189 mdX7_isPiece miX7_isPiece rfl (hM.1 0 (0, 7) rfl) rfl rfl (kX7_isPiece hM ⟨rfl, ?_⟩)
  rw [hr.2.1]
  refine V_ifeqB (tgt := 19) dX7_share_5 (by decide) (fun c5 => ?_) (fun c5 => ?_)
  · skip
    refine V_ldc dX7_share_19 wkX7_84 ?_
    refine V_ireturn dX7_share_21 ⟨_, rfl, vp_nar_int _⟩ ?_
    rw [if_neg (fun h => c5 h.1)] at hQ
    exact hQ
  · skip
    refine V_ild2 dX7_share_8 ?_
    refine V_iconst (v := nI 0) dX7_share_9 (by decide) ?_
    refine V_sipush (v := nI 999) dX7_share_10 (by decide) ?_
    refine V_is3 dX7_share_13 wlX7_70 mdX7_in msX7_in rfl rfl (kX7_in ⟨rfl, ?_⟩)
    refine V_ifneB (tgt := 22) dX7_share_16 (by decide) (fun c16 => ?_) (fun c16 => ?_)
    · skip
      obtain ⟨p, hp, rfl⟩ := rIn_m c5 (by have := hr.b6; omega)
      have hk := hr.okp hp
      have hpn := hk.pn
      rw [if_pos ⟨c5, c16⟩, ← hv p rfl hp] at hQ
      unfold rSh at hQ
      refine V_ald0 dX7_share_22 ?_
      refine V_iv0 dX7_share_23 wlX7_226 mdX7_wentOfAll miX7_wentOfAll rfl (hM.1 0 (0, 7) rfl) rfl rfl (kX7_wentOfAll hM hk.e9 hk.pn ⟨rfl, ?_⟩)
      refine V_ist3 dX7_share_26 rfl ?_
      refine V_ild3 dX7_share_27 ?_
      refine V_ifne (tgt := 33) dX7_share_28 (by decide) (fun c28 => ?_) (fun c28 => ?_)
      · skip
        rw [if_neg c28] at hQ
        refine V_ild2 dX7_share_33 ?_
        refine V_ist4 dX7_share_34 rfl ?_
        refine V_iconst (v := nI 0) dX7_share_36 (by decide) ?_
        refine V_ist5 dX7_share_37 rfl ?_
        refine V_iconst (v := nI 0) dX7_share_39 (by decide) ?_
        refine V_ist6 dX7_share_40 rfl ?_
        refine xDown (P := fun q => V RX7 false cX7_share 7 (some .int) none (d + 2) b 42 [some (xR 40 0), some (xI (nI p)), some (xI z), some (xI (rWentA (S 13) pn)), some (xI (rShO z (rWentA (S 13) pn) (S 13) q)), some (xI (nI (rShA (S 13) p q))), some (xI (nI q))] [] Y G (va_up N 40 S) Q) pn ?_ 0 (Nat.zero_le _)
        intro q hiq hnq
        refine V_ild6 dX7_share_42 ?_
        refine V_ald0 dX7_share_44 ?_
        refine V_getIr dX7_share_45 flX7_77 (hM.1 0 (0, 7) rfl) ?_
        refine V_eqI hk.e9 ?_
        refine V_icmpgeN (tgt := 105) dX7_share_48 (by decide) (by omega) (by omega) (fun c48 => ?_) (fun c48 => ?_)
        · skip
          rw [show q = pn by omega]
          refine V_ild2 dX7_share_105 ?_
          refine V_ald0 dX7_share_106 ?_
          refine V_getR dX7_share_107 flX7_25 (hM.1 0 (0, 7) rfl) (show G 40 0 12 = some (40, 13) from hM.2 12 (1, 67) rfl) ?_
          refine V_bipush (v := nI 33) dX7_share_110 (by decide) ?_
          refine V_ild1 dX7_share_112 ?_
          refine V_iaddN dX7_share_113 ?_
          refine V_iar dX7_share_114 (hM.1 13 (1, 67) rfl) (by omega) (by decide) ?_
          refine V_imul dX7_share_115 ?_
          refine V_ild3 dX7_share_116 ?_
          refine V_idiv dX7_share_117 c28 ?_
          refine V_ald0 dX7_share_118 ?_
          refine V_getR dX7_share_119 flX7_25 (hM.1 0 (0, 7) rfl) (show G 40 0 12 = some (40, 13) from hM.2 12 (1, 67) rfl) ?_
          refine V_bipush (v := nI 33) dX7_share_122 (by decide) ?_
          refine V_ild1 dX7_share_124 ?_
          refine V_iaddN dX7_share_125 ?_
          refine V_iar dX7_share_126 (hM.1 13 (1, 67) rfl) (by omega) (by decide) ?_
          refine V_ifle (tgt := 141) dX7_share_127 (by decide) (fun c127 => ?_) (fun c127 => ?_)
          · skip
            refine V_iconst (v := nI 0) dX7_share_141 (by decide) ?_
            refine V_iadd dX7_share_142 ?_
            refine V_ireturn dX7_share_143 ⟨_, rfl, vp_nar_int _⟩ ?_
            rw [if_neg (fun h => absurd c127 (Int32.not_le.mpr h.1))] at hQ
            exact hQ
          · skip
            refine V_ild5 dX7_share_130 ?_
            refine V_ild4 dX7_share_132 ?_
            refine V_icmpge (tgt := 141) dX7_share_134 (by decide) (fun c134 => ?_) (fun c134 => ?_)
            · skip
              refine V_iconst (v := nI 0) dX7_share_141 (by decide) ?_
              refine V_iadd dX7_share_142 ?_
              refine V_ireturn dX7_share_143 ⟨_, rfl, vp_nar_int _⟩ ?_
              rw [if_neg (fun h => absurd c134 (Int32.not_le.mpr h.2))] at hQ
              exact hQ
            · skip
              refine V_iconst (v := nI 1) dX7_share_137 (by decide) ?_
              refine V_goto (tgt := 142) dX7_share_138 (by decide) ?_
              refine V_iadd dX7_share_142 ?_
              refine V_ireturn dX7_share_143 ⟨_, rfl, vp_nar_int _⟩ ?_
              rw [if_pos ⟨Int32.not_le.mp c127, Int32.not_le.mp c134⟩] at hQ
              exact hQ
        · skip
          refine V_ild4 dX7_share_51 ?_
          refine V_ild2 dX7_share_53 ?_
          refine V_ald0 dX7_share_54 ?_
          refine V_getR dX7_share_55 flX7_25 (hM.1 0 (0, 7) rfl) (show G 40 0 12 = some (40, 13) from hM.2 12 (1, 67) rfl) ?_
          refine V_bipush (v := nI 33) dX7_share_58 (by decide) ?_
          refine V_ild6 dX7_share_60 ?_
          refine V_iaddN dX7_share_62 ?_
          refine V_iar dX7_share_63 (hM.1 13 (1, 67) rfl) (by omega) (by decide) ?_
          refine V_imul dX7_share_64 ?_
          refine V_ild3 dX7_share_65 ?_
          refine V_idiv dX7_share_66 c28 ?_
          refine V_isub dX7_share_67 ?_
          refine V_ist4 dX7_share_68 rfl ?_
          refine V_ild5 dX7_share_70 ?_
          refine V_ild6 dX7_share_72 ?_
          refine V_ild1 dX7_share_74 ?_
          refine V_icmpgeN (tgt := 95) dX7_share_75 (by decide) (by omega) (by omega) (fun c75 => ?_) (fun c75 => ?_)
          · skip
            refine V_iconst (v := nI 0) dX7_share_95 (by decide) ?_
            refine V_iaddN dX7_share_96 ?_
            refine V_ist5 dX7_share_97 rfl ?_
            refine V_incN6 dX7_share_99 rfl ?_
            refine V_goto (tgt := 42) dX7_share_102 (by decide) ?_
            have hnq := hnq (by omega)
            rw [rShO, rShA, if_neg (fun h => absurd h.1 (by omega))] at hnq
            exact hnq
          · skip
            refine V_ald0 dX7_share_78 ?_
            refine V_getR dX7_share_79 flX7_25 (hM.1 0 (0, 7) rfl) (show G 40 0 12 = some (40, 13) from hM.2 12 (1, 67) rfl) ?_
            refine V_bipush (v := nI 33) dX7_share_82 (by decide) ?_
            refine V_ild6 dX7_share_84 ?_
            refine V_iaddN dX7_share_86 ?_
            refine V_iar dX7_share_87 (hM.1 13 (1, 67) rfl) (by omega) (by decide) ?_
            refine V_ifle (tgt := 95) dX7_share_88 (by decide) (fun c88 => ?_) (fun c88 => ?_)
            · skip
              refine V_iconst (v := nI 0) dX7_share_95 (by decide) ?_
              refine V_iaddN dX7_share_96 ?_
              refine V_ist5 dX7_share_97 rfl ?_
              refine V_incN6 dX7_share_99 rfl ?_
              refine V_goto (tgt := 42) dX7_share_102 (by decide) ?_
              have hnq := hnq (by omega)
              rw [rShO, rShA, if_neg (fun h => absurd c88 (Int32.not_le.mpr h.2))] at hnq
              exact hnq
            · skip
              refine V_iconst (v := nI 1) dX7_share_91 (by decide) ?_
              refine V_goto (tgt := 96) dX7_share_92 (by decide) ?_
              refine V_iaddN dX7_share_96 ?_
              refine V_ist5 dX7_share_97 rfl ?_
              refine V_incN6 dX7_share_99 rfl ?_
              refine V_goto (tgt := 42) dX7_share_102 (by decide) ?_
              have hnq := hnq (by omega)
              rw [rShO, rShA, if_pos ⟨by omega, Int32.not_le.mp c88⟩] at hnq
              exact hnq
      · skip
        refine V_iconst (v := 0) dX7_share_31 (by decide) ?_
        refine V_ireturn dX7_share_32 ⟨_, rfl, vp_nar_int _⟩ ?_
        rw [if_pos c28] at hQ
        exact hQ
    · skip
      refine V_ldc dX7_share_19 wkX7_84 ?_
      refine V_ireturn dX7_share_21 ⟨_, rfl, vp_nar_int _⟩ ?_
      rw [if_neg (fun h => c16 h.2)] at hQ
      exact hQ
theorem kX7_chosen1 (hM : xMo Y G) {pn K s : Nat} (h9 : S 0 9 = nI pn) (hp8 : pn ≤ 8) (hK : K ≤ 256) (hs : s < K) (hX : ∀ s, s < K → ∀ p, p < pn → s ^^^ 2 ^ p < K) {U : Nat → Int32} (hU : ∀ s, s < K → S 31 s = U s) (hQ : Q (some (xI (chF true U s pn))) Y G (va_up N 40 S)) : V RX7 false cX7_chosen 6 (some .int) none d b 0 [some (xR 40 0), some (xI (nI s)), some (xI 1), none, none, none] [] Y G (va_up N 40 S) Q := by
  refine V_ald0 dX7_chosen_0 ?_
  refine V_getR dX7_chosen_1 flX7_56 (hM.1 0 (0, 7) rfl) (show G 40 0 30 = some (40, 31) from hM.2 30 (1, 256) rfl) ?_
  refine V_ild1 dX7_chosen_4 ?_
  refine V_iar dX7_chosen_5 (hM.1 31 (1, 256) rfl) (by omega) (by decide) ?_
  refine V_eqI (hU s hs) ?_
  refine V_ist3 dX7_chosen_6 rfl ?_
  refine V_iconst (v := nI 0) dX7_chosen_7 (by decide) ?_
  refine V_ist4 dX7_chosen_8 rfl ?_
  refine xDown (P := fun i => ∀ l5, V RX7 false cX7_chosen 6 (some .int) none d b 10 [some (xR 40 0), some (xI (nI s)), some (xI 1), some (xI (chF true U s i)), some (xI (nI i)), l5] [] Y G (va_up N 40 S) Q) pn ?_ 0 (Nat.zero_le _) none 
  intro i hii hni l5
  refine V_ild4 dX7_chosen_10 ?_
  refine V_ald0 dX7_chosen_12 ?_
  refine V_getIr dX7_chosen_13 flX7_77 (hM.1 0 (0, 7) rfl) ?_
  refine V_eqI h9 ?_
  refine V_icmpgeN (tgt := 60) dX7_chosen_16 (by decide) (by omega) (by omega) (fun c16 => ?_) (fun c16 => ?_)
  · skip
    rw [show i = pn by omega]
    refine V_ild3 dX7_chosen_60 ?_
    refine V_ireturn dX7_chosen_61 ⟨_, rfl, vp_nar_int _⟩ ?_
    exact hQ
  · skip
    refine V_ald0 dX7_chosen_19 ?_
    refine V_getR dX7_chosen_20 flX7_56 (hM.1 0 (0, 7) rfl) (show G 40 0 30 = some (40, 31) from hM.2 30 (1, 256) rfl) ?_
    refine V_ild1 dX7_chosen_23 ?_
    refine V_iconst (v := nI 1) dX7_chosen_24 (by decide) ?_
    refine V_ild4 dX7_chosen_25 ?_
    refine V_ishl dX7_chosen_27 ?_
    refine V_ixor dX7_chosen_28 ?_
    rw [nI_1shl (by omega), nI_xor]
    refine V_iar dX7_chosen_29 (hM.1 31 (1, 256) rfl) (by have := hX s hs i (by omega); omega) (by decide) ?_
    refine V_eqI (hU _ (hX s hs i (by omega))) ?_
    refine V_ist5 dX7_chosen_30 rfl ?_
    refine V_ild2 dX7_chosen_32 ?_
    refine V_ild5 dX7_chosen_33 ?_
    refine V_ild3 dX7_chosen_35 ?_
    refine V_icmple (tgt := 43) dX7_chosen_36 (by decide) (fun c36 => ?_) (fun c36 => ?_)
    · skip
      refine V_iconst (v := 0) dX7_chosen_43 (by decide) ?_
      refine V_icmpne (tgt := 52) dX7_chosen_44 (by decide) (fun c44 => ?_) (fun c44 => ?_)
      · skip
        refine V_ild3 dX7_chosen_52 ?_
        refine V_ist3 dX7_chosen_53 rfl ?_
        refine V_incN4 dX7_chosen_54 rfl ?_
        refine V_goto (tgt := 10) dX7_chosen_57 (by decide) ?_
        have hni := hni (by omega)
        rw [chF, if_pos rfl, if_neg (Int32.not_lt.mpr c36)] at hni
        exact hni _
      · exact absurd c44 (by decide)
    · skip
      refine V_iconst (v := 1) dX7_chosen_39 (by decide) ?_
      refine V_goto (tgt := 44) dX7_chosen_40 (by decide) ?_
      refine V_icmpne (tgt := 52) dX7_chosen_44 (by decide) (fun c44 => ?_) (fun c44 => ?_)
      · exact absurd rfl c44
      · skip
        refine V_ild5 dX7_chosen_47 ?_
        refine V_goto (tgt := 53) dX7_chosen_49 (by decide) ?_
        refine V_ist3 dX7_chosen_53 rfl ?_
        refine V_incN4 dX7_chosen_54 rfl ?_
        refine V_goto (tgt := 10) dX7_chosen_57 (by decide) ?_
        have hni := hni (by omega)
        rw [chF, if_pos rfl, if_pos (Int32.not_le.mp c36)] at hni
        exact hni _
theorem kX7_chosen0 (hM : xMo Y G) {pn K s : Nat} (h9 : S 0 9 = nI pn) (hp8 : pn ≤ 8) (hK : K ≤ 256) (hs : s < K) (hX : ∀ s, s < K → ∀ p, p < pn → s ^^^ 2 ^ p < K) {U : Nat → Int32} (hU : ∀ s, s < K → S 31 s = U s) (hQ : Q (some (xI (chF false U s pn))) Y G (va_up N 40 S)) : V RX7 false cX7_chosen 6 (some .int) none d b 0 [some (xR 40 0), some (xI (nI s)), some (xI 0), none, none, none] [] Y G (va_up N 40 S) Q := by
  refine V_ald0 dX7_chosen_0 ?_
  refine V_getR dX7_chosen_1 flX7_56 (hM.1 0 (0, 7) rfl) (show G 40 0 30 = some (40, 31) from hM.2 30 (1, 256) rfl) ?_
  refine V_ild1 dX7_chosen_4 ?_
  refine V_iar dX7_chosen_5 (hM.1 31 (1, 256) rfl) (by omega) (by decide) ?_
  refine V_eqI (hU s hs) ?_
  refine V_ist3 dX7_chosen_6 rfl ?_
  refine V_iconst (v := nI 0) dX7_chosen_7 (by decide) ?_
  refine V_ist4 dX7_chosen_8 rfl ?_
  refine xDown (P := fun i => ∀ l5, V RX7 false cX7_chosen 6 (some .int) none d b 10 [some (xR 40 0), some (xI (nI s)), some (xI 0), some (xI (chF false U s i)), some (xI (nI i)), l5] [] Y G (va_up N 40 S) Q) pn ?_ 0 (Nat.zero_le _) none 
  intro i hii hni l5
  refine V_ild4 dX7_chosen_10 ?_
  refine V_ald0 dX7_chosen_12 ?_
  refine V_getIr dX7_chosen_13 flX7_77 (hM.1 0 (0, 7) rfl) ?_
  refine V_eqI h9 ?_
  refine V_icmpgeN (tgt := 60) dX7_chosen_16 (by decide) (by omega) (by omega) (fun c16 => ?_) (fun c16 => ?_)
  · skip
    rw [show i = pn by omega]
    refine V_ild3 dX7_chosen_60 ?_
    refine V_ireturn dX7_chosen_61 ⟨_, rfl, vp_nar_int _⟩ ?_
    exact hQ
  · skip
    refine V_ald0 dX7_chosen_19 ?_
    refine V_getR dX7_chosen_20 flX7_56 (hM.1 0 (0, 7) rfl) (show G 40 0 30 = some (40, 31) from hM.2 30 (1, 256) rfl) ?_
    refine V_ild1 dX7_chosen_23 ?_
    refine V_iconst (v := nI 1) dX7_chosen_24 (by decide) ?_
    refine V_ild4 dX7_chosen_25 ?_
    refine V_ishl dX7_chosen_27 ?_
    refine V_ixor dX7_chosen_28 ?_
    rw [nI_1shl (by omega), nI_xor]
    refine V_iar dX7_chosen_29 (hM.1 31 (1, 256) rfl) (by have := hX s hs i (by omega); omega) (by decide) ?_
    refine V_eqI (hU _ (hX s hs i (by omega))) ?_
    refine V_ist5 dX7_chosen_30 rfl ?_
    refine V_ild2 dX7_chosen_32 ?_
    refine V_ild5 dX7_chosen_33 ?_
    refine V_ild3 dX7_chosen_35 ?_
    refine V_icmple (tgt := 43) dX7_chosen_36 (by decide) (fun c36 => ?_) (fun c36 => ?_)
    · skip
      refine V_iconst (v := 0) dX7_chosen_43 (by decide) ?_
      refine V_icmpne (tgt := 52) dX7_chosen_44 (by decide) (fun c44 => ?_) (fun c44 => ?_)
      · exact absurd rfl c44
      · skip
        refine V_ild5 dX7_chosen_47 ?_
        refine V_goto (tgt := 53) dX7_chosen_49 (by decide) ?_
        refine V_ist3 dX7_chosen_53 rfl ?_
        refine V_incN4 dX7_chosen_54 rfl ?_
        refine V_goto (tgt := 10) dX7_chosen_57 (by decide) ?_
        have hni := hni (by omega)
        rw [chF, if_neg (by decide), show (if U (s ^^^ 2 ^ i) < chF false U s i then U (s ^^^ 2 ^ i) else chF false U s i) = U (s ^^^ 2 ^ i) by
          by_cases e : U (s ^^^ 2 ^ i) < chF false U s i
          · rw [if_pos e]
          · rw [if_neg e]; exact Int32.le_antisymm (Int32.not_lt.mp e) c36] at hni
        exact hni _
    · skip
      refine V_iconst (v := 1) dX7_chosen_39 (by decide) ?_
      refine V_goto (tgt := 44) dX7_chosen_40 (by decide) ?_
      refine V_icmpne (tgt := 52) dX7_chosen_44 (by decide) (fun c44 => ?_) (fun c44 => ?_)
      · skip
        refine V_ild3 dX7_chosen_52 ?_
        refine V_ist3 dX7_chosen_53 rfl ?_
        refine V_incN4 dX7_chosen_54 rfl ?_
        refine V_goto (tgt := 10) dX7_chosen_57 (by decide) ?_
        have hni := hni (by omega)
        rw [chF, if_neg (by decide), if_neg (Int32.not_lt.mpr (Int32.le_of_lt (Int32.not_le.mp c36)))] at hni
        exact hni _
      · exact absurd c44 (by decide)
end KM
