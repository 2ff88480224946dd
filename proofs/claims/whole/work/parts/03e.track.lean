section KT
variable {d : Nat} {b : Nat × Nat} {Y : xY} {G : xG} {N : xM} {T : xT} {Q : Option xAV → xY → xG → xM → Prop} {r : Nat}
theorem V_acr {own : String} {ini : Bool} {cc : ByteArray} {nL : Nat} {ret : Option FieldType} {X : Option (Nat × (Nat → Int32))} {pc : Nat} {loc : List (Option xAV)} {st : List xAV} {S : xT} {q c n idx : Nat} (hd : decode cc pc = .ok (.invokestatic idx, 3)) (hw : Cond.methodLink own idx arraycopyName ∈ xWd) (h1 : ((q, c), (1, n)) ∈ Y) (h2 : ((r, c), (1, n)) ∈ Y) (hn : n < 2 ^ 31) (hst : Nat.ble st.length 4 = true) (hne : q ≠ r) (hS : N q = S)
    (k : V own ini cc nL ret X (d + 1) b (pc + 3) loc st Y G (va_up N r (va_up T c (va_cpy (S c) (T c) 0 0 n))) Q) : V own ini cc nL ret X (d + 1) b pc loc (xI (nI n) :: xI (nI 0) :: xR r c :: xI (nI 0) :: xR q c :: st) Y G (va_up N r T) Q := by
  have e0 : (nI 0).toNatClampNeg = 0 := nI_clamp (by decide)
  have en : (nI n).toNatClampNeg = n := nI_clamp hn
  refine V_acopy hd hw h1 h2 (nI_pos (by decide)) (nI_pos (by decide)) (nI_pos hn) (by rw [e0, en]; omega) (by rw [e0, en]; omega) (Nat.le_of_ble_eq_true hst) ?_
  rw [e0, en, va_up_no _ _ hne, hS, va_up_eq, xp_up]
  exact k
theorem xQr {S : xT} {q c k : Nat} (hne : q ≠ r) (hNq : N q = S) : va_up N r T q c k = S c k := by rw [va_up_no _ _ hne, hNq]
/-- a track becomes like another one -/
def tLike (T S : xT) : xT := fun c => if c = 0 then (fun k => if k < 5 then S 0 k else T 0 k) else if 6 ≤ c ∧ c ≤ 8 then (fun k => if k < 6 then S c k else T c k) else if 9 ≤ c ∧ c ≤ 15 then (fun k => if k < 8 then S c k else T c k) else T c
theorem kX5_becomeLike (hT : xTr Y G r) {q : Nat} (hS : xTr Y G q) (hne : q ≠ r) {S : xT} (hNq : N q = S) (hQ : Q none Y G (va_up N r (tLike T S))) : V RX5 false cX5_becomeLike 2 none none (d + 1) b 0 [some (xR r 0), some (xR q 0)] [] Y G (va_up N r T) Q := by
  refine V_ald0 dX5_becomeLike_0 ?_
  refine V_ald1 dX5_becomeLike_1 ?_
  refine V_getI dX5_becomeLike_2 flX5_9 (hS.1 0 (0, 5) rfl) ?_
  refine V_eqI (xQr hne hNq (k := 0)) ?_
  refine V_putIr dX5_becomeLike_5 fwX5_9 (hT.1 0 (0, 5) rfl) ?_
  refine V_ald0 dX5_becomeLike_8 ?_
  refine V_ald1 dX5_becomeLike_9 ?_
  refine V_getI dX5_becomeLike_10 flX5_15 (hS.1 0 (0, 5) rfl) ?_
  refine V_eqI (xQr hne hNq (k := 1)) ?_
  refine V_putIr dX5_becomeLike_13 fwX5_15 (hT.1 0 (0, 5) rfl) ?_
  refine V_ald0 dX5_becomeLike_16 ?_
  refine V_ald1 dX5_becomeLike_17 ?_
  refine V_getI dX5_becomeLike_18 flX5_18 (hS.1 0 (0, 5) rfl) ?_
  refine V_eqI (xQr hne hNq (k := 2)) ?_
  refine V_putIr dX5_becomeLike_21 fwX5_18 (hT.1 0 (0, 5) rfl) ?_
  refine V_ald0 dX5_becomeLike_24 ?_
  refine V_ald1 dX5_becomeLike_25 ?_
  refine V_getI dX5_becomeLike_26 flX5_21 (hS.1 0 (0, 5) rfl) ?_
  refine V_eqI (xQr hne hNq (k := 3)) ?_
  refine V_putIr dX5_becomeLike_29 fwX5_21 (hT.1 0 (0, 5) rfl) ?_
  refine V_ald0 dX5_becomeLike_32 ?_
  refine V_ald1 dX5_becomeLike_33 ?_
  refine V_getI dX5_becomeLike_34 flX5_24 (hS.1 0 (0, 5) rfl) ?_
  refine V_eqI (xQr hne hNq (k := 4)) ?_
  refine V_putIr dX5_becomeLike_37 fwX5_24 (hT.1 0 (0, 5) rfl) ?_
  refine V_ald1 dX5_becomeLike_40 ?_
  refine V_getR dX5_becomeLike_41 flX5_27 (hS.1 0 (0, 5) rfl) (show G q 0 5 = some (q, 6) from hS.2 5 (by decide) (by decide)) ?_
  refine V_iconst (v := nI 0) dX5_becomeLike_44 (by decide) ?_
  refine V_ald0 dX5_becomeLike_45 ?_
  refine V_getR dX5_becomeLike_46 flX5_27 (hT.1 0 (0, 5) rfl) (show G r 0 5 = some (r, 6) from hT.2 5 (by decide) (by decide)) ?_
  refine V_iconst (v := nI 0) dX5_becomeLike_49 (by decide) ?_
  refine V_bipush (v := nI 6) dX5_becomeLike_50 (by decide) ?_
  refine V_acr dX5_becomeLike_52 wlX5_65 (hS.1 6 (1, 6) rfl) (hT.1 6 (1, 6) rfl) (by decide) rfl hne hNq ?_
  refine V_ald1 dX5_becomeLike_55 ?_
  refine V_getR dX5_becomeLike_56 flX5_31 (hS.1 0 (0, 5) rfl) (show G q 0 6 = some (q, 7) from hS.2 6 (by decide) (by decide)) ?_
  refine V_iconst (v := nI 0) dX5_becomeLike_59 (by decide) ?_
  refine V_ald0 dX5_becomeLike_60 ?_
  refine V_getR dX5_becomeLike_61 flX5_31 (hT.1 0 (0, 5) rfl) (show G r 0 6 = some (r, 7) from hT.2 6 (by decide) (by decide)) ?_
  refine V_iconst (v := nI 0) dX5_becomeLike_64 (by decide) ?_
  refine V_bipush (v := nI 6) dX5_becomeLike_65 (by decide) ?_
  refine V_acr dX5_becomeLike_67 wlX5_65 (hS.1 7 (1, 6) rfl) (hT.1 7 (1, 6) rfl) (by decide) rfl hne hNq ?_
  refine V_ald1 dX5_becomeLike_70 ?_
  refine V_getR dX5_becomeLike_71 flX5_34 (hS.1 0 (0, 5) rfl) (show G q 0 7 = some (q, 8) from hS.2 7 (by decide) (by decide)) ?_
  refine V_iconst (v := nI 0) dX5_becomeLike_74 (by decide) ?_
  refine V_ald0 dX5_becomeLike_75 ?_
  refine V_getR dX5_becomeLike_76 flX5_34 (hT.1 0 (0, 5) rfl) (show G r 0 7 = some (r, 8) from hT.2 7 (by decide) (by decide)) ?_
  refine V_iconst (v := nI 0) dX5_becomeLike_79 (by decide) ?_
  refine V_bipush (v := nI 6) dX5_becomeLike_80 (by decide) ?_
  refine V_acr dX5_becomeLike_82 wlX5_65 (hS.1 8 (1, 6) rfl) (hT.1 8 (1, 6) rfl) (by decide) rfl hne hNq ?_
  refine V_ald1 dX5_becomeLike_85 ?_
  refine V_getR dX5_becomeLike_86 flX5_37 (hS.1 0 (0, 5) rfl) (show G q 0 8 = some (q, 9) from hS.2 8 (by decide) (by decide)) ?_
  refine V_iconst (v := nI 0) dX5_becomeLike_89 (by decide) ?_
  refine V_ald0 dX5_becomeLike_90 ?_
  refine V_getR dX5_becomeLike_91 flX5_37 (hT.1 0 (0, 5) rfl) (show G r 0 8 = some (r, 9) from hT.2 8 (by decide) (by decide)) ?_
  refine V_iconst (v := nI 0) dX5_becomeLike_94 (by decide) ?_
  refine V_bipush (v := nI 8) dX5_becomeLike_95 (by decide) ?_
  refine V_acr dX5_becomeLike_97 wlX5_65 (hS.1 9 (1, 8) rfl) (hT.1 9 (1, 8) rfl) (by decide) rfl hne hNq ?_
  refine V_ald1 dX5_becomeLike_100 ?_
  refine V_getR dX5_becomeLike_101 flX5_40 (hS.1 0 (0, 5) rfl) (show G q 0 9 = some (q, 10) from hS.2 9 (by decide) (by decide)) ?_
  refine V_iconst (v := nI 0) dX5_becomeLike_104 (by decide) ?_
  refine V_ald0 dX5_becomeLike_105 ?_
  refine V_getR dX5_becomeLike_106 flX5_40 (hT.1 0 (0, 5) rfl) (show G r 0 9 = some (r, 10) from hT.2 9 (by decide) (by decide)) ?_
  refine V_iconst (v := nI 0) dX5_becomeLike_109 (by decide) ?_
  refine V_bipush (v := nI 8) dX5_becomeLike_110 (by decide) ?_
  refine V_acr dX5_becomeLike_112 wlX5_65 (hS.1 10 (1, 8) rfl) (hT.1 10 (1, 8) rfl) (by decide) rfl hne hNq ?_
  refine V_ald1 dX5_becomeLike_115 ?_
  refine V_getR dX5_becomeLike_116 flX5_43 (hS.1 0 (0, 5) rfl) (show G q 0 10 = some (q, 11) from hS.2 10 (by decide) (by decide)) ?_
  refine V_iconst (v := nI 0) dX5_becomeLike_119 (by decide) ?_
  refine V_ald0 dX5_becomeLike_120 ?_
  refine V_getR dX5_becomeLike_121 flX5_43 (hT.1 0 (0, 5) rfl) (show G r 0 10 = some (r, 11) from hT.2 10 (by decide) (by decide)) ?_
  refine V_iconst (v := nI 0) dX5_becomeLike_124 (by decide) ?_
  refine V_bipush (v := nI 8) dX5_becomeLike_125 (by decide) ?_
  refine V_acr dX5_becomeLike_127 wlX5_65 (hS.1 11 (1, 8) rfl) (hT.1 11 (1, 8) rfl) (by decide) rfl hne hNq ?_
  refine V_ald1 dX5_becomeLike_130 ?_
  refine V_getR dX5_becomeLike_131 flX5_46 (hS.1 0 (0, 5) rfl) (show G q 0 11 = some (q, 12) from hS.2 11 (by decide) (by decide)) ?_
  refine V_iconst (v := nI 0) dX5_becomeLike_134 (by decide) ?_
  refine V_ald0 dX5_becomeLike_135 ?_
  refine V_getR dX5_becomeLike_136 flX5_46 (hT.1 0 (0, 5) rfl) (show G r 0 11 = some (r, 12) from hT.2 11 (by decide) (by decide)) ?_
  refine V_iconst (v := nI 0) dX5_becomeLike_139 (by decide) ?_
  refine V_bipush (v := nI 8) dX5_becomeLike_140 (by decide) ?_
  refine V_acr dX5_becomeLike_142 wlX5_65 (hS.1 12 (1, 8) rfl) (hT.1 12 (1, 8) rfl) (by decide) rfl hne hNq ?_
  refine V_ald1 dX5_becomeLike_145 ?_
  refine V_getR dX5_becomeLike_146 flX5_49 (hS.1 0 (0, 5) rfl) (show G q 0 12 = some (q, 13) from hS.2 12 (by decide) (by decide)) ?_
  refine V_iconst (v := nI 0) dX5_becomeLike_149 (by decide) ?_
  refine V_ald0 dX5_becomeLike_150 ?_
  refine V_getR dX5_becomeLike_151 flX5_49 (hT.1 0 (0, 5) rfl) (show G r 0 12 = some (r, 13) from hT.2 12 (by decide) (by decide)) ?_
  refine V_iconst (v := nI 0) dX5_becomeLike_154 (by decide) ?_
  refine V_bipush (v := nI 8) dX5_becomeLike_155 (by decide) ?_
  refine V_acr dX5_becomeLike_157 wlX5_65 (hS.1 13 (1, 8) rfl) (hT.1 13 (1, 8) rfl) (by decide) rfl hne hNq ?_
  refine V_ald1 dX5_becomeLike_160 ?_
  refine V_getR dX5_becomeLike_161 flX5_52 (hS.1 0 (0, 5) rfl) (show G q 0 13 = some (q, 14) from hS.2 13 (by decide) (by decide)) ?_
  refine V_iconst (v := nI 0) dX5_becomeLike_164 (by decide) ?_
  refine V_ald0 dX5_becomeLike_165 ?_
  refine V_getR dX5_becomeLike_166 flX5_52 (hT.1 0 (0, 5) rfl) (show G r 0 13 = some (r, 14) from hT.2 13 (by decide) (by decide)) ?_
  refine V_iconst (v := nI 0) dX5_becomeLike_169 (by decide) ?_
  refine V_bipush (v := nI 8) dX5_becomeLike_170 (by decide) ?_
  refine V_acr dX5_becomeLike_172 wlX5_65 (hS.1 14 (1, 8) rfl) (hT.1 14 (1, 8) rfl) (by decide) rfl hne hNq ?_
  refine V_ald1 dX5_becomeLike_175 ?_
  refine V_getR dX5_becomeLike_176 flX5_55 (hS.1 0 (0, 5) rfl) (show G q 0 14 = some (q, 15) from hS.2 14 (by decide) (by decide)) ?_
  refine V_iconst (v := nI 0) dX5_becomeLike_179 (by decide) ?_
  refine V_ald0 dX5_becomeLike_180 ?_
  refine V_getR dX5_becomeLike_181 flX5_55 (hT.1 0 (0, 5) rfl) (show G r 0 14 = some (r, 15) from hT.2 14 (by decide) (by decide)) ?_
  refine V_iconst (v := nI 0) dX5_becomeLike_184 (by decide) ?_
  refine V_bipush (v := nI 8) dX5_becomeLike_185 (by decide) ?_
  refine V_acr dX5_becomeLike_187 wlX5_65 (hS.1 15 (1, 8) rfl) (hT.1 15 (1, 8) rfl) (by decide) rfl hne hNq ?_
  refine V_return dX5_becomeLike_190 rfl ?_
  refine cast (congrArg (fun z => Q none Y G (va_up N r z)) ?_) hQ
  funext c
  rcases Nat.lt_or_ge c 16 with hc | hc
  · rcases (show c = 0 ∨ c = 1 ∨ c = 2 ∨ c = 3 ∨ c = 4 ∨ c = 5 ∨ c = 6 ∨ c = 7 ∨ c = 8 ∨ c = 9 ∨ c = 10 ∨ c = 11 ∨ c = 12 ∨ c = 13 ∨ c = 14 ∨ c = 15 by omega) with rfl | rfl | rfl | rfl | rfl | rfl | rfl | rfl | rfl | rfl | rfl | rfl | rfl | rfl | rfl | rfl <;> (funext k; simp [tLike, va_up, upd, va_cpy])
    repeat' (first | rfl | omega | (subst_vars; rfl) | split)
  · simp [tLike, va_up, show c ≠ 0 by omega, show c ≠ 6 by omega, show c ≠ 7 by omega, show c ≠ 8 by omega, show c ≠ 9 by omega, show c ≠ 10 by omega, show c ≠ 11 by omega, show c ≠ 12 by omega, show c ≠ 13 by omega, show c ≠ 14 by omega, show c ≠ 15 by omega, show ¬ (6 ≤ c ∧ c ≤ 8) by omega, show ¬ (9 ≤ c ∧ c ≤ 15) by omega]
def tClear (T : xT) : xT := fun c => if c = 0 then (fun k => if k < 5 then nI 0 else T 0 k) else if c = 8 then xFill (T 8) (nI 10) 6 else if c = 13 then xFill (T 13) (-1000000) 8 else if c = 14 then xFill (T 14) (nI 0) 8 else if c = 15 then xFill (T 15) (nI 0) 8 else T c
theorem kJ7_fillr {c n : Nat} (hY : ((r, c), (1, n)) ∈ Y) (hn : n < 2 ^ 31) {v : Int32} (hQ : Q none Y G (va_up N r (va_up T c (xFill (T c) v n)))) : V RJ7 false cJ7_fill_53178 4 none none d b 0 [some (xR r c), some (xI v), none, none] [] Y G (va_up N r T) Q := by
  refine kJ7_fill hY hn ?_
  rw [xp_up, va_up_eq]
  exact hQ
theorem kX5_clear (hT : xTr Y G r) (hQ : Q none Y G (va_up N r (tClear T))) : V RX5 false cX5_clear 1 none none (d + 1) b 0 [some (xR r 0)] [] Y G (va_up N r T) Q := by
  refine V_ald0 dX5_clear_0 ?_
  refine V_iconst (v := nI 0) dX5_clear_1 (by decide) ?_
  refine V_putIr dX5_clear_2 fwX5_9 (hT.1 0 (0, 5) rfl) ?_
  refine V_ald0 dX5_clear_5 ?_
  refine V_iconst (v := nI 0) dX5_clear_6 (by decide) ?_
  refine V_putIr dX5_clear_7 fwX5_15 (hT.1 0 (0, 5) rfl) ?_
  refine V_ald0 dX5_clear_10 ?_
  refine V_iconst (v := nI 0) dX5_clear_11 (by decide) ?_
  refine V_putIr dX5_clear_12 fwX5_18 (hT.1 0 (0, 5) rfl) ?_
  refine V_ald0 dX5_clear_15 ?_
  refine V_iconst (v := nI 0) dX5_clear_16 (by decide) ?_
  refine V_putIr dX5_clear_17 fwX5_21 (hT.1 0 (0, 5) rfl) ?_
  refine V_ald0 dX5_clear_20 ?_
  refine V_iconst (v := nI 0) dX5_clear_21 (by decide) ?_
  refine V_putIr dX5_clear_22 fwX5_24 (hT.1 0 (0, 5) rfl) ?_
  refine V_ald0 dX5_clear_25 ?_
  refine V_getR dX5_clear_26 flX5_34 (hT.1 0 (0, 5) rfl) (show G r 0 7 = some (r, 8) from hT.2 7 (by decide) (by decide)) ?_
  refine V_bipush (v := nI 10) dX5_clear_29 (by decide) ?_
  refine V_is2 dX5_clear_31 wlX5_58 mdJ7_fill_53178 msJ7_fill_53178 rfl rfl (kJ7_fillr (hT.1 8 (1, 6) rfl) (by decide) ⟨rfl, ?_⟩)
  refine V_ald0 dX5_clear_34 ?_
  refine V_getR dX5_clear_35 flX5_49 (hT.1 0 (0, 5) rfl) (show G r 0 12 = some (r, 13) from hT.2 12 (by decide) (by decide)) ?_
  refine V_ldc dX5_clear_38 wkX5_64 ?_
  refine V_is2 dX5_clear_40 wlX5_58 mdJ7_fill_53178 msJ7_fill_53178 rfl rfl (kJ7_fillr (hT.1 13 (1, 8) rfl) (by decide) ⟨rfl, ?_⟩)
  refine V_ald0 dX5_clear_43 ?_
  refine V_getR dX5_clear_44 flX5_52 (hT.1 0 (0, 5) rfl) (show G r 0 13 = some (r, 14) from hT.2 13 (by decide) (by decide)) ?_
  refine V_iconst (v := nI 0) dX5_clear_47 (by decide) ?_
  refine V_is2 dX5_clear_48 wlX5_58 mdJ7_fill_53178 msJ7_fill_53178 rfl rfl (kJ7_fillr (hT.1 14 (1, 8) rfl) (by decide) ⟨rfl, ?_⟩)
  refine V_ald0 dX5_clear_51 ?_
  refine V_getR dX5_clear_52 flX5_55 (hT.1 0 (0, 5) rfl) (show G r 0 14 = some (r, 15) from hT.2 14 (by decide) (by decide)) ?_
  refine V_iconst (v := nI 0) dX5_clear_55 (by decide) ?_
  refine V_is2 dX5_clear_56 wlX5_58 mdJ7_fill_53178 msJ7_fill_53178 rfl rfl (kJ7_fillr (hT.1 15 (1, 8) rfl) (by decide) ⟨rfl, ?_⟩)
  refine V_return dX5_clear_59 rfl ?_
  refine cast (congrArg (fun z => Q none Y G (va_up N r z)) ?_) hQ
  funext c
  by_cases h0 : c = 0
  · subst h0; funext k; simp [tClear, va_up, upd]; repeat' (first | rfl | omega | split)
  · by_cases h8 : c = 8
    · subst h8; simp [tClear, va_up]
    · by_cases h13 : c = 13
      · subst h13; simp [tClear, va_up]
      · by_cases h14 : c = 14
        · subst h14; simp [tClear, va_up]
        · by_cases h15 : c = 15
          · subst h15; simp [tClear, va_up]
          · simp [tClear, va_up, h0, h8, h13, h14, h15]
end KT
