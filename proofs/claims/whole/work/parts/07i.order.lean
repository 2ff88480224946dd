section KS
variable {d : Nat} {b : Nat × Nat} {Y : xY} {G : xG} {N : xM} {E T S : xT} {Q : Option xAV → xY → xG → xM → Prop}
theorem xOrd (hS : xSt Y G) (hN3 : N 3 = S) {mb pn : Nat} (hk : tOK mb pn S) (hm : 1 ≤ mb) {n : Nat} (hn : n ≤ 60) (hW : ∀ j, j < mb → ∃ k, k ≤ 9 ∧ S 6 j = nI k) {v β : Nat → Int32} (hβ : ∀ T c, c ∈ pL mb → tBits (tRunOn mb n (tReW (dg mb c) (S 6) (tLike T S) mb)) (nI 9) (nI 9) mb = β c) (hkey : ∀ c c', c ∈ pL mb → c' ∈ pL mb → wayN (S 0 0) (S 6) (dg mb c) mb = wayN (S 0 0) (S 6) (dg mb c') mb → β c = β c') (hv : ∀ c, c ∈ pL mb → pWt (β c) (S 6) (dg mb c) mb = v c) (hv0 : ∀ c, c ∈ pL mb → 0 ≤ v c) (hQ : (∀ T2 E2, E2 0 9 = (ordF v (pL mb) (-1, 0)).1 → isP mb (E2 5) (dg mb (ordF v (pL mb) (-1, 0)).2) → Q none Y G (va_up (va_up N 31 T2) 30 E2))) : ∀ (l : List Nat), ∀ (p : List Nat) (c k : Nat) (T E : xT), pL mb = p ++ c :: l → chN mb (c :: l) = true → k + l.length + 1 ≤ 720 → isP mb (E 4) (dg mb c) → E 0 9 = (ordF v p (-1, 0)).1 → (0 ≤ (ordF v p (-1, 0)).1 → isP mb (E 5) (dg mb (ordF v p (-1, 0)).2)) → (∀ c, c ∈ pL mb → E 6 (wayN (S 0 0) (S 6) (dg mb c) mb) = -1 ∨ E 6 (wayN (S 0 0) (S 6) (dg mb c) mb) = β c) → V RX3 false cX3_chooseOrder 5 none none (d + 5) b 41 [some (xR 30 0), some (xR 3 0), some (xI (nI n)), some (xI 1), some (xI (nI k))] [] Y G (va_up (va_up N 31 T) 30 E) Q := by
  have hmb := hk.mb
  have key : ∀ (z : Nat) (l : List Nat), l.length < z → ∀ (p : List Nat) (c k : Nat) (T E : xT), pL mb = p ++ c :: l → chN mb (c :: l) = true → k + l.length + 1 ≤ 720 → isP mb (E 4) (dg mb c) → E 0 9 = (ordF v p (-1, 0)).1 → (0 ≤ (ordF v p (-1, 0)).1 → isP mb (E 5) (dg mb (ordF v p (-1, 0)).2)) → (∀ c, c ∈ pL mb → E 6 (wayN (S 0 0) (S 6) (dg mb c) mb) = -1 ∨ E 6 (wayN (S 0 0) (S 6) (dg mb c) mb) = β c) → V RX3 false cX3_chooseOrder 5 none none (d + 5) b 41 [some (xR 30 0), some (xR 3 0), some (xI (nI n)), some (xI 1), some (xI (nI k))] [] Y G (va_up (va_up N 31 T) 30 E) Q := by
    intro z
    induction z with
    | zero => intro l hl; exact absurd hl (by omega)
    | succ z ih =>
      intro l hlen p c k T E hL hch hk7 hP e8 i5 hca
      have hcL : c ∈ pL mb := by rw [hL]; simp
      have hQ2 : ∀ T2 E2, E2 0 9 = (ordF v (p ++ [c]) (-1, 0)).1 → isP mb (E2 5) (dg mb (ordF v (p ++ [c]) (-1, 0)).2) → l = [] → Q none Y G (va_up (va_up N 31 T2) 30 E2) := fun T2 E2 a1 a2 a3 => hQ T2 E2 (by rw [hL, a3]; exact a1) (by rw [hL, a3]; exact a2)
      refine V_ild4 dX3_chooseOrder_41 ?_
      refine V_sipush (v := nI 720) dX3_chooseOrder_43 (by decide) ?_
      refine V_icmpgeN (tgt := 79) dX3_chooseOrder_46 (by decide) (by omega) (by omega) (fun c46 => ?_) (fun c46 => ?_)
      · exact absurd c46 (by omega)
      · skip
        refine V_ild3 dX3_chooseOrder_49 ?_
        refine V_ifeq (tgt := 79) dX3_chooseOrder_50 (by decide) (fun c50 => absurd c50 (by decide)) (fun _ => ?_)
        refine V_ald0 dX3_chooseOrder_53 ?_
        refine V_ald1 dX3_chooseOrder_54 ?_
        refine V_ald0 dX3_chooseOrder_55 ?_
        refine V_ald1 dX3_chooseOrder_56 ?_
        refine V_ild2 dX3_chooseOrder_57 ?_
        refine V_iv2 dX3_chooseOrder_58 wlX3_102 mdX3_rightOnes miX3_rightOnes rfl (hS.r30.1 0 (0, 3) rfl) rfl rfl (kX3_rightOnes hS hN3 hk hW (by omega) hP (hβ T c hcL) (hca c hcL) (fun T1 E1 r1 r2 => ⟨rfl, ?_⟩))
        have hP1 : isP mb (E1 4) (dg mb c) := by rw [r1 4 (by decide)]; exact hP
        have g8 : E1 0 9 = (ordF v p (-1, 0)).1 := by rw [r1 0 (by decide)]; exact e8
        have g5 : 0 ≤ (ordF v p (-1, 0)).1 → isP mb (E1 5) (dg mb (ordF v p (-1, 0)).2) := fun q => by rw [r1 5 (by decide)]; exact i5 q
        have ca1 : ∀ c, c ∈ pL mb → E1 6 (wayN (S 0 0) (S 6) (dg mb c) mb) = -1 ∨ E1 6 (wayN (S 0 0) (S 6) (dg mb c) mb) = β c := fun c' hc' => by
          rw [r2]
          by_cases e : (wayN (S 0 0) (S 6) (dg mb c') mb) = (wayN (S 0 0) (S 6) (dg mb c) mb)
          · rw [e, upd_eq]; exact Or.inr (hkey c c' hcL hc' e.symm)
          · rw [upd_no _ _ e]; exact hca c' hc'
        refine V_iv2 dX3_chooseOrder_61 wlX3_106 mdX3_preferOrder miX3_preferOrder rfl (hS.r30.1 0 (0, 3) rfl) rfl rfl (kX3_preferOrder hS (by rw [va_up_no _ _ (by decide)]; exact hN3) hk hP1 (hv c hcL) (fun hlt E2 k8 k5 k4 k6 => ⟨rfl, ?_⟩) (fun hlt => ⟨rfl, ?_⟩))
        · skip
          rw [g8] at hlt
          have hst : (ordF v (p ++ [c]) (-1, 0)) = (v c, c) := by rw [ordF_app, if_pos hlt]
          have f8 : E2 0 9 = (ordF v (p ++ [c]) (-1, 0)).1 := by rw [hst]; exact k8
          have f5 : isP mb (E2 5) (dg mb (ordF v (p ++ [c]) (-1, 0)).2) := by rw [hst]; intro j hj; rw [k5 j (by omega)]; exact hP1 j hj
          have hP2 : isP mb (E2 4) (dg mb c) := by rw [k4]; exact hP1
          have ca2 : ∀ c, c ∈ pL mb → E2 6 (wayN (S 0 0) (S 6) (dg mb c) mb) = -1 ∨ E2 6 (wayN (S 0 0) (S 6) (dg mb c) mb) = β c := by rw [k6]; exact ca1
          refine V_ald0 dX3_chooseOrder_64 ?_
          refine V_ald1 dX3_chooseOrder_65 ?_
          refine V_getI dX3_chooseOrder_66 flX3_99 ((hS.tr 3 rfl).1 0 (0, 5) rfl) ?_
          refine V_eqI (by rw [va_up_no _ _ (by decide), va_up_no _ _ (by decide), hN3]; exact hk.e2 : _ = nI mb) ?_
          refine V_iv1 dX3_chooseOrder_69 wlX3_110 mdX3_stepToNextOrder miX3_stepToNextOrder rfl (hS.r30.1 0 (0, 3) rfl) rfl rfl (kX3_stepToNextOrder hS hm (by omega) hP2 (fun hr => ⟨rfl, ?_⟩) (fun r hr hr0 E3 q4 qc => ⟨rfl, ?_⟩))
          · skip
            refine V_ist3 dX3_chooseOrder_72 rfl ?_
            refine V_incN4 dX3_chooseOrder_73 rfl ?_
            refine V_goto (tgt := 41) dX3_chooseOrder_76 (by decide) ?_
            refine V_ild4 dX3_chooseOrder_41 ?_
            refine V_sipush (v := nI 720) dX3_chooseOrder_43 (by decide) ?_
            refine V_icmpgeN (tgt := 79) dX3_chooseOrder_46 (by decide) (by omega) (by omega) (fun c46 => ?_) (fun c46 => ?_)
            · skip
              refine V_return dX3_chooseOrder_79 rfl ?_
              cases l with
              | nil => exact hQ2 _ _ f8 f5 rfl
              | cons c2 t =>
                rw [chN, Bool.and_eq_true, Bool.and_eq_true, Bool.and_eq_true] at hch
                exact absurd (Nat.blt_eq.mp hch.1.1.1) (by omega)
            · skip
              refine V_ild3 dX3_chooseOrder_49 ?_
              refine V_ifeq (tgt := 79) dX3_chooseOrder_50 (by decide) (fun _ => ?_) (fun c50 => absurd rfl c50)
              refine V_return dX3_chooseOrder_79 rfl ?_
              cases l with
              | nil => exact hQ2 _ _ f8 f5 rfl
              | cons c2 t =>
                rw [chN, Bool.and_eq_true, Bool.and_eq_true, Bool.and_eq_true] at hch
                exact absurd (Nat.blt_eq.mp hch.1.1.1) (by omega)
          · skip
            refine V_ist3 dX3_chooseOrder_72 rfl ?_
            refine V_incN4 dX3_chooseOrder_73 rfl ?_
            refine V_goto (tgt := 41) dX3_chooseOrder_76 (by decide) ?_
            cases l with
            | nil => rw [chN] at hch; exact absurd (Nat.eq_of_beq_eq_true hch) (by omega)
            | cons c2 t =>
              rw [chN, Bool.and_eq_true, Bool.and_eq_true, Bool.and_eq_true] at hch
              have hc2 := Nat.eq_of_beq_eq_true hch.1.1.2
              exact ih t (by rw [List.length_cons] at hlen; omega) (p ++ [c]) c2 (k + 1) _ _ (by rw [hL, List.append_assoc]; rfl) hch.2 (by rw [List.length_cons] at hk7; omega) (fun j hj => ⟨by rw [(q4 j hj).1, ← hc2, dg_enc (fun j hj => by have := (q4 j hj).2; omega) hj], by rw [← hc2, dg_enc (fun j hj => by have := (q4 j hj).2; omega) hj]; exact (q4 j hj).2⟩) (by rw [qc 0 (by decide)]; exact f8) (fun _ => by rw [qc 5 (by decide)]; exact f5) (by rw [qc 6 (by decide)]; exact ca2)
        · skip
          rw [g8] at hlt
          have hst : (ordF v (p ++ [c]) (-1, 0)) = ordF v p (-1, 0) := by rw [ordF_app, if_neg hlt]
          have hnn : 0 ≤ (ordF v p (-1, 0)).1 := Int32.le_trans (hv0 c hcL) (Int32.not_lt.mp hlt)
          have f8 : E1 0 9 = (ordF v (p ++ [c]) (-1, 0)).1 := by rw [hst]; exact g8
          have f5 : isP mb (E1 5) (dg mb (ordF v (p ++ [c]) (-1, 0)).2) := by rw [hst]; exact g5 hnn
          have hP2 := hP1
          have ca2 := ca1
          refine V_ald0 dX3_chooseOrder_64 ?_
          refine V_ald1 dX3_chooseOrder_65 ?_
          refine V_getI dX3_chooseOrder_66 flX3_99 ((hS.tr 3 rfl).1 0 (0, 5) rfl) ?_
          refine V_eqI (by rw [va_up_no _ _ (by decide), va_up_no _ _ (by decide), hN3]; exact hk.e2 : _ = nI mb) ?_
          refine V_iv1 dX3_chooseOrder_69 wlX3_110 mdX3_stepToNextOrder miX3_stepToNextOrder rfl (hS.r30.1 0 (0, 3) rfl) rfl rfl (kX3_stepToNextOrder hS hm (by omega) hP2 (fun hr => ⟨rfl, ?_⟩) (fun r hr hr0 E3 q4 qc => ⟨rfl, ?_⟩))
          · skip
            refine V_ist3 dX3_chooseOrder_72 rfl ?_
            refine V_incN4 dX3_chooseOrder_73 rfl ?_
            refine V_goto (tgt := 41) dX3_chooseOrder_76 (by decide) ?_
            refine V_ild4 dX3_chooseOrder_41 ?_
            refine V_sipush (v := nI 720) dX3_chooseOrder_43 (by decide) ?_
            refine V_icmpgeN (tgt := 79) dX3_chooseOrder_46 (by decide) (by omega) (by omega) (fun c46 => ?_) (fun c46 => ?_)
            · skip
              refine V_return dX3_chooseOrder_79 rfl ?_
              cases l with
              | nil => exact hQ2 _ _ f8 f5 rfl
              | cons c2 t =>
                rw [chN, Bool.and_eq_true, Bool.and_eq_true, Bool.and_eq_true] at hch
                exact absurd (Nat.blt_eq.mp hch.1.1.1) (by omega)
            · skip
              refine V_ild3 dX3_chooseOrder_49 ?_
              refine V_ifeq (tgt := 79) dX3_chooseOrder_50 (by decide) (fun _ => ?_) (fun c50 => absurd rfl c50)
              refine V_return dX3_chooseOrder_79 rfl ?_
              cases l with
              | nil => exact hQ2 _ _ f8 f5 rfl
              | cons c2 t =>
                rw [chN, Bool.and_eq_true, Bool.and_eq_true, Bool.and_eq_true] at hch
                exact absurd (Nat.blt_eq.mp hch.1.1.1) (by omega)
          · skip
            refine V_ist3 dX3_chooseOrder_72 rfl ?_
            refine V_incN4 dX3_chooseOrder_73 rfl ?_
            refine V_goto (tgt := 41) dX3_chooseOrder_76 (by decide) ?_
            cases l with
            | nil => rw [chN] at hch; exact absurd (Nat.eq_of_beq_eq_true hch) (by omega)
            | cons c2 t =>
              rw [chN, Bool.and_eq_true, Bool.and_eq_true, Bool.and_eq_true] at hch
              have hc2 := Nat.eq_of_beq_eq_true hch.1.1.2
              exact ih t (by rw [List.length_cons] at hlen; omega) (p ++ [c]) c2 (k + 1) _ _ (by rw [hL, List.append_assoc]; rfl) hch.2 (by rw [List.length_cons] at hk7; omega) (fun j hj => ⟨by rw [(q4 j hj).1, ← hc2, dg_enc (fun j hj => by have := (q4 j hj).2; omega) hj], by rw [← hc2, dg_enc (fun j hj => by have := (q4 j hj).2; omega) hj]; exact (q4 j hj).2⟩) (by rw [qc 0 (by decide)]; exact f8) (fun _ => by rw [qc 5 (by decide)]; exact f5) (by rw [qc 6 (by decide)]; exact ca2)

  exact fun l => key _ l (Nat.lt_succ_self _)
theorem kX3_chooseOrder (hS : xSt Y G) (hN3 : N 3 = S) {mb pn : Nat} (hk : tOK mb pn S) (hm : 1 ≤ mb) {n : Nat} (hn : n ≤ 60) (hW : ∀ j, j < mb → ∃ k, k ≤ 9 ∧ S 6 j = nI k) {v β : Nat → Int32} (hβ : ∀ T c, c ∈ pL mb → tBits (tRunOn mb n (tReW (dg mb c) (S 6) (tLike T S) mb)) (nI 9) (nI 9) mb = β c) (hkey : ∀ c c', c ∈ pL mb → c' ∈ pL mb → wayN (S 0 0) (S 6) (dg mb c) mb = wayN (S 0 0) (S 6) (dg mb c') mb → β c = β c') (hv : ∀ c, c ∈ pL mb → pWt (β c) (S 6) (dg mb c) mb = v c) (hv0 : ∀ c, c ∈ pL mb → 0 ≤ v c) (hQ : ∀ T2 E2, E2 0 9 = (ordF v (pL mb) (-1, 0)).1 → isP mb (E2 5) (dg mb (ordF v (pL mb) (-1, 0)).2) → Q none Y G (va_up (va_up N 31 T2) 30 E2)) : V RX3 false cX3_chooseOrder 5 none none (d + 5) b 0 [some (xR 30 0), some (xR 3 0), some (xI (nI n)), none, none] [] Y G (va_up (va_up N 31 T) 30 E) Q := by
  have hmb := hk.mb
  refine V_ald0 dX3_chooseOrder_0 ?_
  refine V_iconst (v := (-1)) dX3_chooseOrder_1 (by decide) ?_
  refine V_putIr dX3_chooseOrder_2 fwX3_44 (hS.r30.1 0 (0, 3) rfl) ?_
  refine V_ald0 dX3_chooseOrder_5 ?_
  refine V_getR dX3_chooseOrder_6 flX3_31 (hS.r30.1 0 (0, 3) rfl) (hS.r30.2 5 (30, 6) rfl) ?_
  refine V_iconst (v := (-1)) dX3_chooseOrder_9 (by decide) ?_
  refine V_is2 dX3_chooseOrder_10 wlX3_93 mdJ7_fill_53178 msJ7_fill_53178 rfl rfl (kJ7_fillr (hS.r30.1 6 (1, 4096) rfl) (by decide) ⟨rfl, ?_⟩)
  refine V_iconst (v := nI 0) dX3_chooseOrder_13 (by decide) ?_
  refine V_ist3 dX3_chooseOrder_14 rfl ?_
  refine xDown (P := fun i => ∀ E, E 0 9 = -1 → (∀ k, k < 4096 → E 6 k = -1) → (∀ j, j < i → E 4 j = nI j) → V RX3 false cX3_chooseOrder 5 none none (d + 5) b 15 [some (xR 30 0), some (xR 3 0), some (xI (nI n)), some (xI (nI i)), none] [] Y G (va_up (va_up N 31 T) 30 E) Q) mb ?_ 0 (Nat.zero_le _) _ rfl (fun k hk => by rw [va_up_eq]; unfold xFill; exact if_pos hk) (fun j hj => absurd hj (by omega)) 
  intro i hii hni E e8 e6 e4
  refine V_ild3 dX3_chooseOrder_15 ?_
  refine V_ald1 dX3_chooseOrder_16 ?_
  refine V_getI dX3_chooseOrder_17 flX3_99 ((hS.tr 3 rfl).1 0 (0, 5) rfl) ?_
  refine V_eqI (by rw [va_up_no _ _ (by decide), va_up_no _ _ (by decide), hN3]; exact hk.e2 : _ = nI mb) ?_
  refine V_icmpgeN (tgt := 36) dX3_chooseOrder_20 (by decide) (by omega) (by omega) (fun c20 => ?_) (fun c20 => ?_)
  · skip
    obtain ⟨o1, o2, o3, o4, t, o5⟩ := ordC hm hmb
    refine V_iconst (v := 1) dX3_chooseOrder_36 (by decide) ?_
    refine V_ist3 dX3_chooseOrder_37 rfl ?_
    refine V_iconst (v := nI 0) dX3_chooseOrder_38 (by decide) ?_
    refine V_ist4 dX3_chooseOrder_39 rfl ?_
    exact xOrd hS hN3 hk hm hn hW hβ hkey hv hv0 hQ t [] _ 0 T _ o5 (by rw [← o5]; exact o1) (by rw [o5, List.length_cons] at o4; omega) (fun j hj => by rw [dg_enc (fun j hj => by omega) hj]; exact ⟨e4 j (by omega), hj⟩) e8 (fun h => absurd (show (0 : Int32) ≤ -1 from h) (by decide)) (fun c _ => Or.inl (e6 _ (wayN_4096 _ _ _ hmb)))
  · skip
    refine V_ald0 dX3_chooseOrder_23 ?_
    refine V_getR dX3_chooseOrder_24 flX3_25 (hS.r30.1 0 (0, 3) rfl) (hS.r30.2 3 (30, 4) rfl) ?_
    refine V_ild3 dX3_chooseOrder_27 ?_
    refine V_ild3 dX3_chooseOrder_28 ?_
    refine V_iasr dX3_chooseOrder_29 (hS.r30.1 4 (1, 6) rfl) (by omega) (by decide) ?_
    refine V_incN3 dX3_chooseOrder_30 rfl ?_
    refine V_goto (tgt := 15) dX3_chooseOrder_33 (by decide) ?_
    exact hni (by omega) _ (by first | exact e8 | (rw [va_up_no _ _ (by decide)]; exact e8)) (by first | exact e6 | (rw [va_up_no _ _ (by decide)]; exact e6)) (fun j hj => by
      rw [va_up_eq]
      by_cases e : j = i
      · rw [e, upd_eq]
      · rw [upd_no _ _ e]; exact e4 j (by omega))
end KS
