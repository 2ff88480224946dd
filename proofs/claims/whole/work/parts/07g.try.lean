section KS
variable {d : Nat} {b : Nat × Nat} {Y : xY} {G : xG} {N : xM} {E T S : xT} {Q : Option xAV → xY → xG → xM → Prop}
theorem V_ac2 {own : String} {ini : Bool} {cc : ByteArray} {nL : Nat} {ret : Option FieldType} {X : Option (Nat × (Nat → Int32))} {pc : Nat} {loc : List (Option xAV)} {st : List xAV} {r c1 c2 n1 n2 n idx : Nat} (hd : decode cc pc = .ok (.invokestatic idx, 3)) (hw : Cond.methodLink own idx arraycopyName ∈ xWd) (h1 : ((r, c1), (1, n1)) ∈ Y) (h2 : ((r, c2), (1, n2)) ∈ Y) (hn : n < 2 ^ 31) (hn1 : n ≤ n1) (hn2 : n ≤ n2) (hst : Nat.ble st.length 4 = true)
    (k : V own ini cc nL ret X (d + 1) b (pc + 3) loc st Y G (va_up N r (va_up E c2 (va_cpy (E c1) (E c2) 0 0 n))) Q) : V own ini cc nL ret X (d + 1) b pc loc (xI (nI n) :: xI (nI 0) :: xR r c2 :: xI (nI 0) :: xR r c1 :: st) Y G (va_up N r E) Q := by
  have e0 : (nI 0).toNatClampNeg = 0 := nI_clamp (by decide)
  have en : (nI n).toNatClampNeg = n := nI_clamp hn
  refine V_acopy hd hw h1 h2 (nI_pos (by decide)) (nI_pos (by decide)) (nI_pos hn) (by rw [e0, en]; omega) (by rw [e0, en]; omega) (Nat.le_of_ble_eq_true hst) ?_
  rw [e0, en, va_up_eq, xp_up]
  exact k
/-- no two alike stand in the other order -/
def firstA (mb : Nat) (π : Nat → Nat) (w : Nat → Int32) : Prop := ∀ a c, a < c → c < mb → π c < π a → w (π a) ≠ w (π c)
def tReW (π : Nat → Nat) (w : Nat → Int32) (T : xT) : Nat → xT
  | 0 => T
  | i + 1 => va_up (tReW π w T i) 6 (upd (tReW π w T i 6) i (w (π i)))
theorem tReW_no (π : Nat → Nat) (w : Nat → Int32) (T : xT) {c : Nat} (hc : c ≠ 6) : ∀ n, tReW π w T n c = T c
  | 0 => rfl
  | n + 1 => by rw [tReW, va_up_no _ _ hc, tReW_no π w T hc n]
theorem tReW_at (π : Nat → Nat) (w : Nat → Int32) (T : xT) {j : Nat} : ∀ n, j < n → tReW π w T n 6 j = w (π j)
  | 0, h => absurd h (by omega)
  | n + 1, h => by
    rw [tReW, va_up_eq]
    by_cases e : j = n
    · rw [e, upd_eq]
    · rw [upd_no _ _ e]; exact tReW_at π w T n (by omega)
theorem tOK.reW {mb pn : Nat} {T : xT} (h : tOK mb pn T) (π : Nat → Nat) (w : Nat → Int32) (n : Nat) : tOK mb pn (tReW π w T n) := by
  obtain ⟨a1, a2, a3, a4, a5, a6, a7, a8, a9, a10, a11⟩ := h
  have e := fun {c : Nat} (hc : c ≠ 6) => tReW_no π w T hc n
  refine ⟨a1, a2, a3, ?_, ?_, ?_, ?_, ?_, ?_, ?_, ?_⟩
  · rw [e (by decide)]; exact a4
  · rw [e (by decide)]; exact a5
  · rw [e (by decide)]; exact a6
  · rw [e (by decide), e (by decide)]; exact a7
  · rw [e (by decide)]; exact a8
  · rw [e (by decide)]; exact a9
  · rw [e (by decide)]; exact a10
  · rw [e (by decide)]; exact a11
theorem kX3_isFirstOfAlike (hS : xSt Y G) (hN3 : N 3 = S) {mb pn : Nat} (hk : tOK mb pn S) {π : Nat → Nat} (hP : isP mb (E 4) π) (h1 : firstA mb π (S 6) → Q (some (xI 1)) Y G (va_up N 30 E)) (h0 : ¬ firstA mb π (S 6) → Q (some (xI 0)) Y G (va_up N 30 E)) : V RX3 false cX3_isFirstOfAlike 4 (some .boolean) none d b 0 [some (xR 30 0), some (xR 3 0), none, none] [] Y G (va_up N 30 E) Q := by
  have hmb := hk.mb
  refine V_iconst (v := nI 0) dX3_isFirstOfAlike_0 (by decide) ?_
  refine V_ist2 dX3_isFirstOfAlike_1 rfl ?_
  refine xDown (P := fun i => (∀ a, a < i → ∀ c, a < c → c < mb → π c < π a → S 6 (π a) ≠ S 6 (π c)) → ∀ l3, V RX3 false cX3_isFirstOfAlike 4 (some .boolean) none d b 2 [some (xR 30 0), some (xR 3 0), some (xI (nI i)), l3] [] Y G (va_up N 30 E) Q) mb ?_ 0 (Nat.zero_le _) (fun a ha => absurd ha (by omega)) none 
  intro i hii hni hA l3
  refine V_ild2 dX3_isFirstOfAlike_2 ?_
  refine V_ald1 dX3_isFirstOfAlike_3 ?_
  refine V_getI dX3_isFirstOfAlike_4 flX3_90 ((hS.tr 3 rfl).1 0 (0, 5) rfl) ?_
  refine V_eqI (by rw [va_up_no _ _ (by decide), hN3]; exact hk.e2 : _ = nI mb) ?_
  refine V_icmpgeN (tgt := 76) dX3_isFirstOfAlike_7 (by decide) (by omega) (by omega) (fun c7 => ?_) (fun c7 => ?_)
  · skip
    refine V_iconst (v := 1) dX3_isFirstOfAlike_76 (by decide) ?_
    refine V_ireturn dX3_isFirstOfAlike_77 ⟨_, rfl, xbool (by first | exact Or.inl rfl | exact Or.inr rfl | exact xite01 _)⟩ ?_
    exact h1 (fun a c hac hc hp => hA a (by omega) c hac hc hp)
  · skip
    refine V_ild2 dX3_isFirstOfAlike_10 ?_
    refine V_iconst (v := nI 1) dX3_isFirstOfAlike_11 (by decide) ?_
    refine V_iaddN dX3_isFirstOfAlike_12 ?_
    refine V_ist3 dX3_isFirstOfAlike_13 rfl ?_
    refine xDown (P := fun j => i < j → (∀ c, i < c → c < j → π c < π i → S 6 (π i) ≠ S 6 (π c)) → V RX3 false cX3_isFirstOfAlike 4 (some .boolean) none d b 14 [some (xR 30 0), some (xR 3 0), some (xI (nI i)), some (xI (nI j))] [] Y G (va_up N 30 E) Q) mb ?_ (i + 1) (by omega) (by omega) (fun c h1 h2 => absurd h1 (by omega)) 
    intro j hij hnj hlt hB
    refine V_ild3 dX3_isFirstOfAlike_14 ?_
    refine V_ald1 dX3_isFirstOfAlike_15 ?_
    refine V_getI dX3_isFirstOfAlike_16 flX3_90 ((hS.tr 3 rfl).1 0 (0, 5) rfl) ?_
    refine V_eqI (by rw [va_up_no _ _ (by decide), hN3]; exact hk.e2 : _ = nI mb) ?_
    refine V_icmpgeN (tgt := 70) dX3_isFirstOfAlike_19 (by decide) (by omega) (by omega) (fun c19 => ?_) (fun c19 => ?_)
    · skip
      refine V_incN2 dX3_isFirstOfAlike_70 rfl ?_
      refine V_goto (tgt := 2) dX3_isFirstOfAlike_73 (by decide) ?_
      exact hni (by omega) (fun a ha c hac hc hp => by
        by_cases e : a = i
        · rw [e] at hac hp ⊢; exact hB c hac (by omega) hp
        · exact hA a (by omega) c hac hc hp) _
    · skip
      refine V_ald0 dX3_isFirstOfAlike_22 ?_
      refine V_getR dX3_isFirstOfAlike_23 flX3_25 (hS.r30.1 0 (0, 3) rfl) (hS.r30.2 3 (30, 4) rfl) ?_
      refine V_ild2 dX3_isFirstOfAlike_26 ?_
      refine V_iar dX3_isFirstOfAlike_27 (hS.r30.1 4 (1, 6) rfl) (by omega) (by decide) ?_
      refine V_eqI (hP i (by omega)).1 ?_
      refine V_ald0 dX3_isFirstOfAlike_28 ?_
      refine V_getR dX3_isFirstOfAlike_29 flX3_25 (hS.r30.1 0 (0, 3) rfl) (hS.r30.2 3 (30, 4) rfl) ?_
      refine V_ild3 dX3_isFirstOfAlike_32 ?_
      refine V_iar dX3_isFirstOfAlike_33 (hS.r30.1 4 (1, 6) rfl) (by omega) (by decide) ?_
      refine V_eqI (hP j (by omega)).1 ?_
      refine V_icmpleN (tgt := 64) dX3_isFirstOfAlike_34 (by decide) (by have := (hP i (by omega)).2; omega) (by have := (hP j (by omega)).2; omega) (fun c34 => ?_) (fun c34 => ?_)
      · skip
        refine V_incN3 dX3_isFirstOfAlike_64 rfl ?_
        refine V_goto (tgt := 14) dX3_isFirstOfAlike_67 (by decide) ?_
        exact hnj (by omega) (by omega) (fun c hac hc hp => by
          by_cases e : c = j
          · rw [e] at hp; exact absurd hp (by omega)
          · exact hB c hac (by omega) hp)
      · skip
        refine V_ald1 dX3_isFirstOfAlike_37 ?_
        refine V_getR dX3_isFirstOfAlike_38 flX3_104 ((hS.tr 3 rfl).1 0 (0, 5) rfl) (show G 3 0 5 = some (3, 6) from (hS.tr 3 rfl).2 5 (by decide) (by decide)) ?_
        refine V_ald0 dX3_isFirstOfAlike_41 ?_
        refine V_getR dX3_isFirstOfAlike_42 flX3_25 (hS.r30.1 0 (0, 3) rfl) (hS.r30.2 3 (30, 4) rfl) ?_
        refine V_ild2 dX3_isFirstOfAlike_45 ?_
        refine V_iar dX3_isFirstOfAlike_46 (hS.r30.1 4 (1, 6) rfl) (by omega) (by decide) ?_
        refine V_eqI (hP i (by omega)).1 ?_
        refine V_ia dX3_isFirstOfAlike_47 ((hS.tr 3 rfl).1 6 (1, 6) rfl) (by have := (hP i (by omega)).2; omega) (by decide) ?_
        refine V_eqI (by rw [va_up_no _ _ (by decide), hN3] : _ = S 6 (π i)) ?_
        refine V_ald1 dX3_isFirstOfAlike_48 ?_
        refine V_getR dX3_isFirstOfAlike_49 flX3_104 ((hS.tr 3 rfl).1 0 (0, 5) rfl) (show G 3 0 5 = some (3, 6) from (hS.tr 3 rfl).2 5 (by decide) (by decide)) ?_
        refine V_ald0 dX3_isFirstOfAlike_52 ?_
        refine V_getR dX3_isFirstOfAlike_53 flX3_25 (hS.r30.1 0 (0, 3) rfl) (hS.r30.2 3 (30, 4) rfl) ?_
        refine V_ild3 dX3_isFirstOfAlike_56 ?_
        refine V_iar dX3_isFirstOfAlike_57 (hS.r30.1 4 (1, 6) rfl) (by omega) (by decide) ?_
        refine V_eqI (hP j (by omega)).1 ?_
        refine V_ia dX3_isFirstOfAlike_58 ((hS.tr 3 rfl).1 6 (1, 6) rfl) (by have := (hP j (by omega)).2; omega) (by decide) ?_
        refine V_eqI (by rw [va_up_no _ _ (by decide), hN3] : _ = S 6 (π j)) ?_
        refine V_icmpne (tgt := 64) dX3_isFirstOfAlike_59 (by decide) (fun c59 => ?_) (fun c59 => ?_)
        · skip
          refine V_incN3 dX3_isFirstOfAlike_64 rfl ?_
          refine V_goto (tgt := 14) dX3_isFirstOfAlike_67 (by decide) ?_
          exact hnj (by omega) (by omega) (fun c hac hc hp => by
            by_cases e : c = j
            · rw [e]; exact c59
            · exact hB c hac (by omega) hp)
        · skip
          refine V_iconst (v := 0) dX3_isFirstOfAlike_62 (by decide) ?_
          refine V_ireturn dX3_isFirstOfAlike_63 ⟨_, rfl, xbool (by first | exact Or.inl rfl | exact Or.inr rfl | exact xite01 _)⟩ ?_
          exact h0 (fun h => h i j (by omega) (by omega) (by omega) (by first | exact c59 | exact Classical.byContradiction (fun q => c59 q)))
theorem kX3_tryOrder (hS : xSt Y G) (hN3 : N 3 = S) {mb pn : Nat} (hk : tOK mb pn S) {n : Nat} (hn : n ≤ 60) {π : Nat → Nat} (hP : isP mb (E 4) π) {v : Int32} (hv : tWt (tRunOn mb n (tReW π (S 6) (tLike T S) mb)) (tBits (tRunOn mb n (tReW π (S 6) (tLike T S) mb)) (nI 9) (nI 9) mb) mb = v) (h1 : E 0 8 < v → ∀ T2 E2, E2 0 8 = v → (∀ j, j < 6 → E2 5 j = E 4 j) → E2 4 = E 4 → Q none Y G (va_up (va_up N 31 T2) 30 E2)) (h0 : ¬ E 0 8 < v → ∀ T2, Q none Y G (va_up (va_up N 31 T2) 30 E)) : V RX3 false cX3_tryOrder 4 none none (d + 4) b 0 [some (xR 30 0), some (xR 3 0), some (xI (nI n)), none] [] Y G (va_up (va_up N 31 T) 30 E) Q := by
  have hmb := hk.mb
  refine V_ald0 dX3_tryOrder_0 ?_
  refine V_getR dX3_tryOrder_1 flX3_12 (hS.r30.1 0 (0, 3) rfl) (hS.r30.2 0 (31, 0) rfl) ?_
  refine V_ald1 dX3_tryOrder_4 ?_
  refine V_comm (by decide) ?_
  refine V_iv1 dX3_tryOrder_5 wlX3_48 mdX5_becomeLike miX5_becomeLike rfl ((hS.tr 31 rfl).1 0 (0, 5) rfl) rfl rfl (kX5_becomeLike (hS.tr 31 rfl) (hS.tr 3 rfl) (by decide) (by first | exact hN3 | (rw [va_up_no _ _ (by decide)]; exact hN3)) ⟨rfl, ?_⟩)
  refine V_comm (by decide) ?_
  refine V_iconst (v := nI 0) dX3_tryOrder_8 (by decide) ?_
  refine V_ist3 dX3_tryOrder_9 rfl ?_
  refine xDown (P := fun i => V RX3 false cX3_tryOrder 4 none none (d + 4) b 10 [some (xR 30 0), some (xR 3 0), some (xI (nI n)), some (xI (nI i))] [] Y G (va_up (va_up N 31 (tReW π (S 6) (tLike T S) i)) 30 E) Q) mb ?_ 0 (Nat.zero_le _)
  intro i hii hni
  refine V_ild3 dX3_tryOrder_10 ?_
  refine V_ald1 dX3_tryOrder_11 ?_
  refine V_getI dX3_tryOrder_12 flX3_90 ((hS.tr 3 rfl).1 0 (0, 5) rfl) ?_
  refine V_eqI (by rw [va_up_no _ _ (by decide), va_up_no _ _ (by decide), hN3]; exact hk.e2 : _ = nI mb) ?_
  refine V_icmpgeN (tgt := 44) dX3_tryOrder_15 (by decide) (by omega) (by omega) (fun c15 => ?_) (fun c15 => ?_)
  · skip
    rw [show i = mb by omega]
    refine V_ald0 dX3_tryOrder_44 ?_
    refine V_ild2 dX3_tryOrder_45 ?_
    refine V_comm (by decide) ?_
    refine V_iv1 dX3_tryOrder_46 wlX3_52 mdX3_goOn miX3_goOn rfl (hS.r30.1 0 (0, 3) rfl) rfl rfl (kX3_goOn hS ((hk.like T).reW π (S 6) mb) (by omega) ⟨rfl, ?_⟩)
    refine V_comm (by decide) ?_
    refine V_ald0 dX3_tryOrder_49 ?_
    refine V_getR dX3_tryOrder_50 flX3_12 (hS.r30.1 0 (0, 3) rfl) (hS.r30.2 0 (31, 0) rfl) ?_
    refine V_ald0 dX3_tryOrder_53 ?_
    refine V_getR dX3_tryOrder_54 flX3_12 (hS.r30.1 0 (0, 3) rfl) (hS.r30.2 0 (31, 0) rfl) ?_
    refine V_bipush (v := nI 9) dX3_tryOrder_57 (by decide) ?_
    refine V_comm (by decide) ?_
    refine V_iv1 dX3_tryOrder_59 wlX3_107 mdX5_bitsAt miX5_bitsAt rfl ((hS.tr 31 rfl).1 0 (0, 5) rfl) rfl rfl (kX5_bitsAt (hS.tr 31 rfl) (((hk.like T).reW π (S 6) mb).runOn n).e2 hk.mb ⟨rfl, ?_⟩)
    refine V_comm (by decide) ?_
    refine V_comm (by decide) ?_
    refine V_iv1 dX3_tryOrder_62 wlX3_110 mdX5_weightOf miX5_weightOf rfl ((hS.tr 31 rfl).1 0 (0, 5) rfl) rfl rfl (kX5_weightOf (hS.tr 31 rfl) (((hk.like T).reW π (S 6) mb).runOn n).e2 hk.mb ⟨rfl, ?_⟩)
    refine V_comm (by decide) ?_
    refine V_ist3 dX3_tryOrder_65 rfl ?_
    rw [hv]
    refine V_ild3 dX3_tryOrder_66 ?_
    refine V_ald0 dX3_tryOrder_67 ?_
    refine V_getIr dX3_tryOrder_68 flX3_41 (hS.r30.1 0 (0, 3) rfl) ?_
    refine V_icmple (tgt := 94) dX3_tryOrder_71 (by decide) (fun c71 => ?_) (fun c71 => ?_)
    · skip
      refine V_return dX3_tryOrder_94 rfl ?_
      exact h0 (fun h => absurd c71 (Int32.not_le.mpr h)) _
    · skip
      refine V_ald0 dX3_tryOrder_74 ?_
      refine V_ild3 dX3_tryOrder_75 ?_
      refine V_putIr dX3_tryOrder_76 fwX3_41 (hS.r30.1 0 (0, 3) rfl) ?_
      refine V_ald0 dX3_tryOrder_79 ?_
      refine V_getR dX3_tryOrder_80 flX3_25 (hS.r30.1 0 (0, 3) rfl) (hS.r30.2 3 (30, 4) rfl) ?_
      refine V_iconst (v := nI 0) dX3_tryOrder_83 (by decide) ?_
      refine V_ald0 dX3_tryOrder_84 ?_
      refine V_getR dX3_tryOrder_85 flX3_28 (hS.r30.1 0 (0, 3) rfl) (hS.r30.2 4 (30, 5) rfl) ?_
      refine V_iconst (v := nI 0) dX3_tryOrder_88 (by decide) ?_
      refine V_bipush (v := nI 6) dX3_tryOrder_89 (by decide) ?_
      refine V_ac2 dX3_tryOrder_91 wlX3_113 (hS.r30.1 4 (1, 6) rfl) (hS.r30.1 5 (1, 6) rfl) (by decide) (by decide) (by decide) rfl ?_
      refine V_return dX3_tryOrder_94 rfl ?_
      exact h1 (Int32.not_le.mp c71) _ _ rfl (fun j hj => by
        show va_cpy (E 4) (E 5) 0 0 6 j = E 4 j
        unfold va_cpy
        rw [if_pos (by omega)]
        congr 1
        omega) rfl
  · skip
    refine V_ald0 dX3_tryOrder_18 ?_
    refine V_getR dX3_tryOrder_19 flX3_12 (hS.r30.1 0 (0, 3) rfl) (hS.r30.2 0 (31, 0) rfl) ?_
    refine V_getR dX3_tryOrder_22 flX3_104 ((hS.tr 31 rfl).1 0 (0, 5) rfl) (show G 31 0 5 = some (31, 6) from (hS.tr 31 rfl).2 5 (by decide) (by decide)) ?_
    refine V_ild3 dX3_tryOrder_25 ?_
    refine V_ald1 dX3_tryOrder_26 ?_
    refine V_getR dX3_tryOrder_27 flX3_104 ((hS.tr 3 rfl).1 0 (0, 5) rfl) (show G 3 0 5 = some (3, 6) from (hS.tr 3 rfl).2 5 (by decide) (by decide)) ?_
    refine V_ald0 dX3_tryOrder_30 ?_
    refine V_getR dX3_tryOrder_31 flX3_25 (hS.r30.1 0 (0, 3) rfl) (hS.r30.2 3 (30, 4) rfl) ?_
    refine V_ild3 dX3_tryOrder_34 ?_
    refine V_iar dX3_tryOrder_35 (hS.r30.1 4 (1, 6) rfl) (by omega) (by decide) ?_
    refine V_eqI (hP i (by omega)).1 ?_
    refine V_ia dX3_tryOrder_36 ((hS.tr 3 rfl).1 6 (1, 6) rfl) (by have := (hP i (by omega)).2; omega) (by decide) ?_
    refine V_eqI (by rw [va_up_no _ _ (by decide), va_up_no _ _ (by decide), hN3] : _ = S 6 (π i)) ?_
    refine V_iasq (by decide) dX3_tryOrder_37 ((hS.tr 31 rfl).1 6 (1, 6) rfl) (by omega) (by decide) ?_
    refine V_incN3 dX3_tryOrder_38 rfl ?_
    refine V_goto (tgt := 10) dX3_tryOrder_41 (by decide) ?_
    exact hni (by omega)
end KS
