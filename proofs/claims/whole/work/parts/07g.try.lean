section KS
variable {d : Nat} {b : Nat × Nat} {Y : xY} {G : xG} {N : xM} {E T S : xT} {Q : Option xAV → xY → xG → xM → Prop}
theorem V_ac2 {own : String} {ini : Bool} {cc : ByteArray} {nL : Nat} {ret : Option FieldType} {X : Option (Nat × (Nat → Int32))} {pc : Nat} {loc : List (Option xAV)} {st : List xAV} {r c1 c2 n1 n2 n idx : Nat} (hd : decode cc pc = .ok (.invokestatic idx, 3)) (hw : Cond.methodLink own idx arraycopyName ∈ xWd) (h1 : ((r, c1), (1, n1)) ∈ Y) (h2 : ((r, c2), (1, n2)) ∈ Y) (hn : n < 2 ^ 31) (hn1 : n ≤ n1) (hn2 : n ≤ n2) (hst : Nat.ble st.length 4 = true)
    (k : V own ini cc nL ret X (d + 1) b (pc + 3) loc st Y G (va_up N r (va_up E c2 (va_cpy (E c1) (E c2) 0 0 n))) Q) : V own ini cc nL ret X (d + 1) b pc loc (xI (nI n) :: xI (nI 0) :: xR r c2 :: xI (nI 0) :: xR r c1 :: st) Y G (va_up N r E) Q := by
  have e0 : (nI 0).toNatClampNeg = 0 := nI_clamp (by decide)
  have en : (nI n).toNatClampNeg = n := nI_clamp hn
  refine V_acopy hd hw h1 h2 (nI_pos (by decide)) (nI_pos (by decide)) (nI_pos hn) (by rw [e0, en]; omega) (by rw [e0, en]; omega) (Nat.le_of_ble_eq_true hst) ?_
  rw [e0, en, va_up_eq, xp_up]
  exact k
def tReW (π : Nat → Nat) (w : Nat → Int32) (T : xT) : Nat → xT
  | 0 => T
  | i + 1 => va_up (tReW π w T i) 6 (upd (tReW π w T i 6) i (w (π i)))
theorem tReW_no (π : Nat → Nat) (w : Nat → Int32) (T : xT) {c : Nat} (hc : c ≠ 6) : ∀ n, tReW π w T n c = T c
  | 0 => rfl
  | n + 1 => by rw [tReW, va_up_no _ _ hc, tReW_no π w T hc n]
theorem tReW_at (π : Nat → Nat) (w : Nat → Int32) (T : xT) {j : Nat} : ∀ n, j < n → tReW π w T n 6 j = w (π j)
  | 0, h => absurd h (by omega)
  | n + 1, h => by
    rw [tReW, va_up_eq]
    by_cases e : j = n
    · rw [e, upd_eq]
    · rw [upd_no _ _ e]; exact tReW_at π w T n (by omega)
theorem tOK.reW {mb pn : Nat} {T : xT} (h : tOK mb pn T) (π : Nat → Nat) (w : Nat → Int32) (n : Nat) : tOK mb pn (tReW π w T n) := by
  obtain ⟨a1, a2, a3, a4, a5, a6, a7, a8, a9, a10, a11⟩ := h
  have e := fun {c : Nat} (hc : c ≠ 6) => tReW_no π w T hc n
  refine ⟨a1, a2, a3, ?_, ?_, ?_, ?_, ?_, ?_, ?_, ?_⟩
  · rw [e (by decide)]; exact a4
  · rw [e (by decide)]; exact a5
  · rw [e (by decide)]; exact a6
  · rw [e (by decide), e (by decide)]; exact a7
  · rw [e (by decide)]; exact a8
  · rw [e (by decide)]; exact a9
  · rw [e (by decide)]; exact a10
  · rw [e (by decide)]; exact a11
/-- by the bar, and by even or odd: four ways a marble -/
def wayN (bar : Int32) (w : Nat → Int32) (π : Nat → Nat) : Nat → Nat
  | 0 => 0
  | i + 1 => 4 * wayN bar w π i + (if w (π i) < bar then 0 else 2) + (w (π i)).toNatClampNeg % 2
theorem wayN_lt (bar : Int32) (w : Nat → Int32) (π : Nat → Nat) : ∀ n, wayN bar w π n < 4 ^ n
  | 0 => Nat.zero_lt_one
  | n + 1 => by
    have ih := wayN_lt bar w π n
    rw [wayN, Nat.pow_succ]
    have h2 : (if w (π n) < bar then 0 else 2) ≤ 2 := by split <;> omega
    have := Nat.mod_lt (w (π n)).toNatClampNeg (show 0 < 2 by decide)
    omega
theorem wayN_4096 (bar : Int32) (w : Nat → Int32) (π : Nat → Nat) {n : Nat} (hn : n ≤ 6) : wayN bar w π n < 4096 :=
  Nat.lt_of_lt_of_le (wayN_lt bar w π n) (Nat.le_trans (Nat.pow_le_pow_right (by decide) hn) (by decide))
theorem wayN_inj {bar : Int32} {w : Nat → Int32} {π π' : Nat → Nat} : ∀ {n : Nat}, wayN bar w π n = wayN bar w π' n → ∀ j, j < n → (w (π j) < bar ↔ w (π' j) < bar) ∧ (w (π j)).toNatClampNeg % 2 = (w (π' j)).toNatClampNeg % 2
  | 0, _, j, hj => absurd hj (by omega)
  | n + 1, h, j, hj => by
    rw [wayN, wayN] at h
    have h1 := Nat.mod_lt (w (π n)).toNatClampNeg (show 0 < 2 by decide)
    have h2 := Nat.mod_lt (w (π' n)).toNatClampNeg (show 0 < 2 by decide)
    have key : wayN bar w π n = wayN bar w π' n ∧ (w (π n) < bar ↔ w (π' n) < bar) ∧ (w (π n)).toNatClampNeg % 2 = (w (π' n)).toNatClampNeg % 2 := by
      by_cases c1 : w (π n) < bar <;> by_cases c2 : w (π' n) < bar
      · rw [if_pos c1, if_pos c2] at h; exact ⟨by omega, ⟨fun _ => c2, fun _ => c1⟩, by omega⟩
      · rw [if_pos c1, if_neg c2] at h; exfalso; omega
      · rw [if_neg c1, if_pos c2] at h; exfalso; omega
      · rw [if_neg c1, if_neg c2] at h; exact ⟨by omega, ⟨fun q => absurd q c1, fun q => absurd q c2⟩, by omega⟩
    by_cases e : j = n
    · rw [e]; exact key.2
    · exact wayN_inj key.1 j (by omega)
def pWt (s : Int32) (w : Nat → Int32) (π : Nat → Nat) : Nat → Int32
  | 0 => nI 0
  | i + 1 => pWt s w π i + ((s >>> (nI i &&& 31)) &&& nI 1) * w (π i)
theorem pWt_eq {T : xT} {s : Int32} {w : Nat → Int32} {π : Nat → Nat} : ∀ n, (∀ i, i < n → T 6 i = w (π i)) → tWt T s n = pWt s w π n
  | 0, _ => rfl
  | n + 1, h => by
    rw [tWt, pWt, pWt_eq n (fun i hi => h i (by omega)), h n (by omega)]
    rcases and1 (s >>> (nI n &&& 31)) with e | e
    · rw [if_pos e, e, Int32.zero_mul, Int32.add_zero]
    · rw [if_neg (by rw [e]; exact n10), e, show nI 1 = (1 : Int32) from rfl, Int32.one_mul]
theorem w_rem {v : Int32} (h : ∃ k, k ≤ 9 ∧ v = nI k) : v - v / nI 2 * nI 2 = nI (v.toNatClampNeg % 2) := by
  obtain ⟨k, h1, rfl⟩ := h
  rw [nI_clamp (by omega)]
  exact pk_rem (by omega) (by decide) (by decide)
theorem kX3_rightOnes (hS : xSt Y G) (hN3 : N 3 = S) {mb pn : Nat} (hk : tOK mb pn S) (hW : ∀ j, j < mb → ∃ k, k ≤ 9 ∧ S 6 j = nI k) {n : Nat} (hn : n ≤ 60) {π : Nat → Nat} (hP : isP mb (E 4) π) {β : Int32} (hβ : tBits (tRunOn mb n (tReW π (S 6) (tLike T S) mb)) (nI 9) (nI 9) mb = β) (hc : E 6 (wayN (S 0 0) (S 6) π mb) = -1 ∨ E 6 (wayN (S 0 0) (S 6) π mb) = β) (hQ : ∀ T2 E2, (∀ c, c ≠ 6 → E2 c = E c) → E2 6 = upd (E 6) (wayN (S 0 0) (S 6) π mb) β → Q (some (xI β)) Y G (va_up (va_up N 31 T2) 30 E2)) : V RX3 false cX3_rightOnes 6 (some .int) none (d + 4) b 0 [some (xR 30 0), some (xR 3 0), some (xI (nI n)), none, none, none] [] Y G (va_up (va_up N 31 T) 30 E) Q := by
  have hmb := hk.mb
  have hwl := wayN_4096 (S 0 0) (S 6) π hmb
  refine V_iconst (v := nI 0) dX3_rightOnes_0 (by decide) ?_
  refine V_ist3 dX3_rightOnes_1 rfl ?_
  refine V_iconst (v := nI 0) dX3_rightOnes_2 (by decide) ?_
  refine V_ist4 dX3_rightOnes_3 rfl ?_
  refine xDown (P := fun i => ∀ l5, V RX3 false cX3_rightOnes 6 (some .int) none (d + 4) b 5 [some (xR 30 0), some (xR 3 0), some (xI (nI n)), some (xI (nI (wayN (S 0 0) (S 6) π i))), some (xI (nI i)), l5] [] Y G (va_up (va_up N 31 T) 30 E) Q) mb ?_ 0 (Nat.zero_le _) none 
  intro i hii hni l5
  refine V_ild4 dX3_rightOnes_5 ?_
  refine V_ald1 dX3_rightOnes_7 ?_
  refine V_getI dX3_rightOnes_8 flX3_99 ((hS.tr 3 rfl).1 0 (0, 5) rfl) ?_
  refine V_eqI (by rw [va_up_no _ _ (by decide), va_up_no _ _ (by decide), hN3]; exact hk.e2 : _ = nI mb) ?_
  refine V_icmpgeN (tgt := 58) dX3_rightOnes_11 (by decide) (by omega) (by omega) (fun c11 => ?_) (fun c11 => ?_)
  · skip
    rw [show i = mb by omega]
    refine V_ald0 dX3_rightOnes_58 ?_
    refine V_getR dX3_rightOnes_59 flX3_31 (hS.r30.1 0 (0, 3) rfl) (hS.r30.2 5 (30, 6) rfl) ?_
    refine V_ild3 dX3_rightOnes_62 ?_
    refine V_iar dX3_rightOnes_63 (hS.r30.1 6 (1, 4096) rfl) hwl (by decide) ?_
    refine V_iconst (v := (-1)) dX3_rightOnes_64 (by decide) ?_
    refine V_icmpne (tgt := 136) dX3_rightOnes_65 (by decide) (fun c65 => ?_) (fun c65 => ?_)
    · skip
      refine V_ald0 dX3_rightOnes_136 ?_
      refine V_getR dX3_rightOnes_137 flX3_31 (hS.r30.1 0 (0, 3) rfl) (hS.r30.2 5 (30, 6) rfl) ?_
      refine V_ild3 dX3_rightOnes_140 ?_
      refine V_iar dX3_rightOnes_141 (hS.r30.1 6 (1, 4096) rfl) hwl (by decide) ?_
      refine V_ireturn dX3_rightOnes_142 ⟨_, rfl, vp_nar_int _⟩ ?_
      have e : E 6 (wayN (S 0 0) (S 6) π mb) = β := hc.resolve_left c65
      rw [e]
      exact hQ T E (fun _ _ => rfl) (by rw [← e, upd_self])
    · skip
      refine V_ald0 dX3_rightOnes_68 ?_
      refine V_getR dX3_rightOnes_69 flX3_12 (hS.r30.1 0 (0, 3) rfl) (hS.r30.2 0 (31, 0) rfl) ?_
      refine V_ald1 dX3_rightOnes_72 ?_
      refine V_comm (by decide) ?_
      refine V_iv1 dX3_rightOnes_73 wlX3_51 mdX5_becomeLike miX5_becomeLike rfl ((hS.tr 31 rfl).1 0 (0, 5) rfl) rfl rfl (kX5_becomeLike (hS.tr 31 rfl) (hS.tr 3 rfl) (by decide) (by first | exact hN3 | (rw [va_up_no _ _ (by decide)]; exact hN3)) ⟨rfl, ?_⟩)
      refine V_comm (by decide) ?_
      refine V_iconst (v := nI 0) dX3_rightOnes_76 (by decide) ?_
      refine V_ist4 dX3_rightOnes_77 rfl ?_
      refine xDown (P := fun i => V RX3 false cX3_rightOnes 6 (some .int) none (d + 4) b 79 [some (xR 30 0), some (xR 3 0), some (xI (nI n)), some (xI (nI (wayN (S 0 0) (S 6) π mb))), some (xI (nI i)), l5] [] Y G (va_up (va_up N 31 (tReW π (S 6) (tLike T S) i)) 30 E) Q) mb ?_ 0 (Nat.zero_le _)
      intro i hii hni
      refine V_ild4 dX3_rightOnes_79 ?_
      refine V_ald1 dX3_rightOnes_81 ?_
      refine V_getI dX3_rightOnes_82 flX3_99 ((hS.tr 3 rfl).1 0 (0, 5) rfl) ?_
      refine V_eqI (by rw [va_up_no _ _ (by decide), va_up_no _ _ (by decide), hN3]; exact hk.e2 : _ = nI mb) ?_
      refine V_icmpgeN (tgt := 116) dX3_rightOnes_85 (by decide) (by omega) (by omega) (fun c85 => ?_) (fun c85 => ?_)
      · skip
        rw [show i = mb by omega]
        refine V_ald0 dX3_rightOnes_116 ?_
        refine V_ild2 dX3_rightOnes_117 ?_
        refine V_comm (by decide) ?_
        refine V_iv1 dX3_rightOnes_118 wlX3_55 mdX3_goOn miX3_goOn rfl (hS.r30.1 0 (0, 3) rfl) rfl rfl (kX3_goOn hS ((hk.like T).reW π (S 6) mb) (by omega) ⟨rfl, ?_⟩)
        refine V_comm (by decide) ?_
        refine V_ald0 dX3_rightOnes_121 ?_
        refine V_getR dX3_rightOnes_122 flX3_31 (hS.r30.1 0 (0, 3) rfl) (hS.r30.2 5 (30, 6) rfl) ?_
        refine V_ild3 dX3_rightOnes_125 ?_
        refine V_ald0 dX3_rightOnes_126 ?_
        refine V_getR dX3_rightOnes_127 flX3_12 (hS.r30.1 0 (0, 3) rfl) (hS.r30.2 0 (31, 0) rfl) ?_
        refine V_bipush (v := nI 9) dX3_rightOnes_130 (by decide) ?_
        refine V_comm (by decide) ?_
        refine V_iv1 dX3_rightOnes_132 wlX3_119 mdX5_bitsAt miX5_bitsAt rfl ((hS.tr 31 rfl).1 0 (0, 5) rfl) rfl rfl (kX5_bitsAt (hS.tr 31 rfl) (((hk.like T).reW π (S 6) mb).runOn n).e2 hk.mb ⟨rfl, ?_⟩)
        refine V_comm (by decide) ?_
        refine V_iasr dX3_rightOnes_135 (hS.r30.1 6 (1, 4096) rfl) hwl (by decide) ?_
        refine V_ald0 dX3_rightOnes_136 ?_
        refine V_getR dX3_rightOnes_137 flX3_31 (hS.r30.1 0 (0, 3) rfl) (hS.r30.2 5 (30, 6) rfl) ?_
        refine V_ild3 dX3_rightOnes_140 ?_
        refine V_iar dX3_rightOnes_141 (hS.r30.1 6 (1, 4096) rfl) hwl (by decide) ?_
        refine V_ireturn dX3_rightOnes_142 ⟨_, rfl, vp_nar_int _⟩ ?_
        rw [va_up_eq, upd_eq, hβ]
        exact hQ _ _ (fun c hc => va_up_no _ _ hc) (va_up_eq _ _ _)
      · skip
        refine V_ald0 dX3_rightOnes_88 ?_
        refine V_getR dX3_rightOnes_89 flX3_12 (hS.r30.1 0 (0, 3) rfl) (hS.r30.2 0 (31, 0) rfl) ?_
        refine V_getR dX3_rightOnes_92 flX3_113 ((hS.tr 31 rfl).1 0 (0, 5) rfl) (show G 31 0 5 = some (31, 6) from (hS.tr 31 rfl).2 5 (by decide) (by decide)) ?_
        refine V_ild4 dX3_rightOnes_95 ?_
        refine V_ald1 dX3_rightOnes_97 ?_
        refine V_getR dX3_rightOnes_98 flX3_113 ((hS.tr 3 rfl).1 0 (0, 5) rfl) (show G 3 0 5 = some (3, 6) from (hS.tr 3 rfl).2 5 (by decide) (by decide)) ?_
        refine V_ald0 dX3_rightOnes_101 ?_
        refine V_getR dX3_rightOnes_102 flX3_25 (hS.r30.1 0 (0, 3) rfl) (hS.r30.2 3 (30, 4) rfl) ?_
        refine V_ild4 dX3_rightOnes_105 ?_
        refine V_iar dX3_rightOnes_107 (hS.r30.1 4 (1, 6) rfl) (by omega) (by decide) ?_
        refine V_eqI (hP i (by omega)).1 ?_
        refine V_ia dX3_rightOnes_108 ((hS.tr 3 rfl).1 6 (1, 6) rfl) (by have := (hP i (by omega)).2; omega) (by decide) ?_
        refine V_eqI (by rw [va_up_no _ _ (by decide), va_up_no _ _ (by decide), hN3] : _ = S 6 (π i)) ?_
        refine V_iasq (by decide) dX3_rightOnes_109 ((hS.tr 31 rfl).1 6 (1, 6) rfl) (by omega) (by decide) ?_
        refine V_incN4 dX3_rightOnes_110 rfl ?_
        refine V_goto (tgt := 79) dX3_rightOnes_113 (by decide) ?_
        exact hni (by omega)
  · skip
    refine V_ald1 dX3_rightOnes_14 ?_
    refine V_getR dX3_rightOnes_15 flX3_113 ((hS.tr 3 rfl).1 0 (0, 5) rfl) (show G 3 0 5 = some (3, 6) from (hS.tr 3 rfl).2 5 (by decide) (by decide)) ?_
    refine V_ald0 dX3_rightOnes_18 ?_
    refine V_getR dX3_rightOnes_19 flX3_25 (hS.r30.1 0 (0, 3) rfl) (hS.r30.2 3 (30, 4) rfl) ?_
    refine V_ild4 dX3_rightOnes_22 ?_
    refine V_iar dX3_rightOnes_24 (hS.r30.1 4 (1, 6) rfl) (by omega) (by decide) ?_
    refine V_eqI (hP i (by omega)).1 ?_
    refine V_ia dX3_rightOnes_25 ((hS.tr 3 rfl).1 6 (1, 6) rfl) (by have := (hP i (by omega)).2; omega) (by decide) ?_
    refine V_eqI (by rw [va_up_no _ _ (by decide), va_up_no _ _ (by decide), hN3] : _ = S 6 (π i)) ?_
    refine V_ist5 dX3_rightOnes_26 rfl ?_
    refine V_iconst (v := nI 4) dX3_rightOnes_28 (by decide) ?_
    refine V_ild3 dX3_rightOnes_29 ?_
    refine V_imulN dX3_rightOnes_30 ?_
    refine V_ild5 dX3_rightOnes_31 ?_
    refine V_ald1 dX3_rightOnes_33 ?_
    refine V_getI dX3_rightOnes_34 flX3_116 ((hS.tr 3 rfl).1 0 (0, 5) rfl) ?_
    refine V_eqI (by rw [va_up_no _ _ (by decide), va_up_no _ _ (by decide), hN3] : _ = S 0 0) ?_
    refine V_icmplt (tgt := 44) dX3_rightOnes_37 (by decide) (fun c37 => ?_) (fun c37 => ?_)
    · skip
      refine V_iconst (v := nI 0) dX3_rightOnes_44 (by decide) ?_
      refine V_iaddN dX3_rightOnes_45 ?_
      refine V_ild5 dX3_rightOnes_46 ?_
      refine V_iconst (v := nI 2) dX3_rightOnes_48 (by decide) ?_
      refine V_irem dX3_rightOnes_49 (by decide) ?_
      rw [w_rem (hW _ (hP i (by omega)).2)]
      refine V_iaddN dX3_rightOnes_50 ?_
      refine V_ist3 dX3_rightOnes_51 rfl ?_
      refine V_incN4 dX3_rightOnes_52 rfl ?_
      refine V_goto (tgt := 5) dX3_rightOnes_55 (by decide) ?_
      have hq := hni (by omega) (some (xI (S 6 (π i))))
      rw [wayN, if_pos c37] at hq
      exact hq
    · skip
      refine V_iconst (v := nI 2) dX3_rightOnes_40 (by decide) ?_
      refine V_goto (tgt := 45) dX3_rightOnes_41 (by decide) ?_
      refine V_iaddN dX3_rightOnes_45 ?_
      refine V_ild5 dX3_rightOnes_46 ?_
      refine V_iconst (v := nI 2) dX3_rightOnes_48 (by decide) ?_
      refine V_irem dX3_rightOnes_49 (by decide) ?_
      rw [w_rem (hW _ (hP i (by omega)).2)]
      refine V_iaddN dX3_rightOnes_50 ?_
      refine V_ist3 dX3_rightOnes_51 rfl ?_
      refine V_incN4 dX3_rightOnes_52 rfl ?_
      refine V_goto (tgt := 5) dX3_rightOnes_55 (by decide) ?_
      have hq := hni (by omega) (some (xI (S 6 (π i))))
      rw [wayN, if_neg c37] at hq
      exact hq
theorem kX3_preferOrder (hS : xSt Y G) (hN3 : N 3 = S) {mb pn : Nat} (hk : tOK mb pn S) {π : Nat → Nat} (hP : isP mb (E 4) π) {s v : Int32} (hv : pWt s (S 6) π mb = v) (h1 : E 0 9 < v → ∀ E2, E2 0 9 = v → (∀ j, j < 6 → E2 5 j = E 4 j) → E2 4 = E 4 → E2 6 = E 6 → Q none Y G (va_up N 30 E2)) (h0 : ¬ E 0 9 < v → Q none Y G (va_up N 30 E)) : V RX3 false cX3_preferOrder 5 none none (d + 1) b 0 [some (xR 30 0), some (xR 3 0), some (xI s), none, none] [] Y G (va_up N 30 E) Q := by
  have hmb := hk.mb
  refine V_iconst (v := nI 0) dX3_preferOrder_0 (by decide) ?_
  refine V_ist3 dX3_preferOrder_1 rfl ?_
  refine V_iconst (v := nI 0) dX3_preferOrder_2 (by decide) ?_
  refine V_ist4 dX3_preferOrder_3 rfl ?_
  refine xDown (P := fun i => V RX3 false cX3_preferOrder 5 none none (d + 1) b 5 [some (xR 30 0), some (xR 3 0), some (xI s), some (xI (pWt s (S 6) π i)), some (xI (nI i))] [] Y G (va_up N 30 E) Q) mb ?_ 0 (Nat.zero_le _)
  intro i hii hni
  refine V_ild4 dX3_preferOrder_5 ?_
  refine V_ald1 dX3_preferOrder_7 ?_
  refine V_getI dX3_preferOrder_8 flX3_99 ((hS.tr 3 rfl).1 0 (0, 5) rfl) ?_
  refine V_eqI (by rw [va_up_no _ _ (by decide), hN3]; exact hk.e2 : _ = nI mb) ?_
  refine V_icmpgeN (tgt := 42) dX3_preferOrder_11 (by decide) (by omega) (by omega) (fun c11 => ?_) (fun c11 => ?_)
  · skip
    rw [show i = mb by omega, hv]
    refine V_ild3 dX3_preferOrder_42 ?_
    refine V_ald0 dX3_preferOrder_43 ?_
    refine V_getIr dX3_preferOrder_44 flX3_44 (hS.r30.1 0 (0, 3) rfl) ?_
    refine V_icmple (tgt := 70) dX3_preferOrder_47 (by decide) (fun c47 => ?_) (fun c47 => ?_)
    · skip
      refine V_return dX3_preferOrder_70 rfl ?_
      exact h0 (fun h => absurd c47 (Int32.not_le.mpr h))
    · skip
      refine V_ald0 dX3_preferOrder_50 ?_
      refine V_ild3 dX3_preferOrder_51 ?_
      refine V_putIr dX3_preferOrder_52 fwX3_44 (hS.r30.1 0 (0, 3) rfl) ?_
      refine V_ald0 dX3_preferOrder_55 ?_
      refine V_getR dX3_preferOrder_56 flX3_25 (hS.r30.1 0 (0, 3) rfl) (hS.r30.2 3 (30, 4) rfl) ?_
      refine V_iconst (v := nI 0) dX3_preferOrder_59 (by decide) ?_
      refine V_ald0 dX3_preferOrder_60 ?_
      refine V_getR dX3_preferOrder_61 flX3_28 (hS.r30.1 0 (0, 3) rfl) (hS.r30.2 4 (30, 5) rfl) ?_
      refine V_iconst (v := nI 0) dX3_preferOrder_64 (by decide) ?_
      refine V_bipush (v := nI 6) dX3_preferOrder_65 (by decide) ?_
      refine V_ac2 dX3_preferOrder_67 wlX3_122 (hS.r30.1 4 (1, 6) rfl) (hS.r30.1 5 (1, 6) rfl) (by decide) (by decide) (by decide) rfl ?_
      refine V_return dX3_preferOrder_70 rfl ?_
      exact h1 (Int32.not_le.mp c47) _ rfl (fun j hj => by
        show va_cpy (E 4) (E 5) 0 0 6 j = E 4 j
        unfold va_cpy
        rw [if_pos (by omega)]
        congr 1
        omega) rfl rfl
  · skip
    refine V_ild3 dX3_preferOrder_14 ?_
    refine V_ild2 dX3_preferOrder_15 ?_
    refine V_ild4 dX3_preferOrder_16 ?_
    refine V_ishr dX3_preferOrder_18 ?_
    refine V_iconst (v := nI 1) dX3_preferOrder_19 (by decide) ?_
    refine V_iand dX3_preferOrder_20 ?_
    refine V_ald1 dX3_preferOrder_21 ?_
    refine V_getR dX3_preferOrder_22 flX3_113 ((hS.tr 3 rfl).1 0 (0, 5) rfl) (show G 3 0 5 = some (3, 6) from (hS.tr 3 rfl).2 5 (by decide) (by decide)) ?_
    refine V_ald0 dX3_preferOrder_25 ?_
    refine V_getR dX3_preferOrder_26 flX3_25 (hS.r30.1 0 (0, 3) rfl) (hS.r30.2 3 (30, 4) rfl) ?_
    refine V_ild4 dX3_preferOrder_29 ?_
    refine V_iar dX3_preferOrder_31 (hS.r30.1 4 (1, 6) rfl) (by omega) (by decide) ?_
    refine V_eqI (hP i (by omega)).1 ?_
    refine V_ia dX3_preferOrder_32 ((hS.tr 3 rfl).1 6 (1, 6) rfl) (by have := (hP i (by omega)).2; omega) (by decide) ?_
    refine V_eqI (by rw [va_up_no _ _ (by decide), hN3] : _ = S 6 (π i)) ?_
    refine V_imul dX3_preferOrder_33 ?_
    refine V_iadd dX3_preferOrder_34 ?_
    refine V_ist3 dX3_preferOrder_35 rfl ?_
    refine V_incN4 dX3_preferOrder_36 rfl ?_
    refine V_goto (tgt := 5) dX3_preferOrder_39 (by decide) ?_
    exact hni (by omega)
end KS
