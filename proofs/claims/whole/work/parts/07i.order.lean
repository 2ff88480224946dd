section KS
variable {d : Nat} {b : Nat × Nat} {Y : xY} {G : xG} {N : xM} {E T S : xT} {Q : Option xAV → xY → xG → xM → Prop}
theorem xOrd (hS : xSt Y G) (hN3 : N 3 = S) {mb pn : Nat} (hk : tOK mb pn S) (hm : 1 ≤ mb) {n : Nat} (hn : n ≤ 60) {v : Nat → Int32} (hv : ∀ T c, c ∈ pL mb → tWt (tRunOn mb n (tReW (dg mb c) (S 6) (tLike T S) mb)) (tBits (tRunOn mb n (tReW (dg mb c) (S 6) (tLike T S) mb)) (nI 9) (nI 9) mb) mb = v c) (hv0 : ∀ c, c ∈ pL mb → 0 ≤ v c) (hsk : ∀ p c l, pL mb = p ++ c :: l → ¬ firstA mb (dg mb c) (S 6) → ¬ (ordF v p (-1, 0)).1 < v c) (hQ : (∀ T2 E2, E2 0 8 = (ordF v (pL mb) (-1, 0)).1 → isP mb (E2 5) (dg mb (ordF v (pL mb) (-1, 0)).2) → Q none Y G (va_up (va_up N 31 T2) 30 E2))) : ∀ (l : List Nat) (p : List Nat) (c k : Nat) (T E : xT), pL mb = p ++ c :: l → chN mb (c :: l) = true → k + l.length + 1 ≤ 720 → isP mb (E 4) (dg mb c) → E 0 8 = (ordF v p (-1, 0)).1 → (0 ≤ (ordF v p (-1, 0)).1 → isP mb (E 5) (dg mb (ordF v p (-1, 0)).2)) → V RX3 false cX3_chooseOrder 5 none none (d + 5) b 33 [some (xR 30 0), some (xR 3 0), some (xI (nI n)), some (xI 1), some (xI (nI k))] [] Y G (va_up (va_up N 31 T) 30 E) Q := by
  have hmb := hk.mb
  have key : ∀ (z : Nat) (l : List Nat), l.length < z → ∀ (p : List Nat) (c k : Nat) (T E : xT), pL mb = p ++ c :: l → chN mb (c :: l) = true → k + l.length + 1 ≤ 720 → isP mb (E 4) (dg mb c) → E 0 8 = (ordF v p (-1, 0)).1 → (0 ≤ (ordF v p (-1, 0)).1 → isP mb (E 5) (dg mb (ordF v p (-1, 0)).2)) → V RX3 false cX3_chooseOrder 5 none none (d + 5) b 33 [some (xR 30 0), some (xR 3 0), some (xI (nI n)), some (xI 1), some (xI (nI k))] [] Y G (va_up (va_up N 31 T) 30 E) Q := by
    intro z
    induction z with
    | zero => intro l hl; exact absurd hl (by omega)
    | succ z ih =>
      intro l hlen p c k T E hL hch hk7 hP e8 i5
      have hcL : c ∈ pL mb := by rw [hL]; simp
      have hQ2 : ∀ T2 E2, E2 0 8 = (ordF v (p ++ [c]) (-1, 0)).1 → isP mb (E2 5) (dg mb (ordF v (p ++ [c]) (-1, 0)).2) → l = [] → Q none Y G (va_up (va_up N 31 T2) 30 E2) := fun T2 E2 a1 a2 a3 => hQ T2 E2 (by rw [hL, a3]; exact a1) (by rw [hL, a3]; exact a2)
      refine V_ild4 dX3_chooseOrder_33 ?_
      refine V_sipush (v := nI 720) dX3_chooseOrder_35 (by decide) ?_
      refine V_icmpgeN (tgt := 74) dX3_chooseOrder_38 (by decide) (by omega) (by omega) (fun c38 => ?_) (fun c38 => ?_)
      · exact absurd c38 (by omega)
      · skip
        refine V_ild3 dX3_chooseOrder_41 ?_
        refine V_ifeq (tgt := 74) dX3_chooseOrder_42 (by decide) (fun c42 => absurd c42 (by decide)) (fun _ => ?_)
        refine V_ald0 dX3_chooseOrder_45 ?_
        refine V_ald1 dX3_chooseOrder_46 ?_
        refine V_iv1 dX3_chooseOrder_47 wlX3_93 mdX3_isFirstOfAlike miX3_isFirstOfAlike rfl (hS.r30.1 0 (0, 3) rfl) rfl rfl (kX3_isFirstOfAlike hS (by rw [va_up_no _ _ (by decide)]; exact hN3) hk hP (fun hf => ⟨rfl, ?_⟩) (fun hf => ⟨rfl, ?_⟩))
        · skip
          refine V_ifeq (tgt := 59) dX3_chooseOrder_50 (by decide) (fun c50 => absurd c50 (by decide)) (fun _ => ?_)
          refine V_ald0 dX3_chooseOrder_53 ?_
          refine V_ald1 dX3_chooseOrder_54 ?_
          refine V_ild2 dX3_chooseOrder_55 ?_
          refine V_iv2 dX3_chooseOrder_56 wlX3_97 mdX3_tryOrder miX3_tryOrder rfl (hS.r30.1 0 (0, 3) rfl) rfl rfl (kX3_tryOrder hS hN3 hk (by omega) hP (hv T c hcL) (fun hlt T2 E2 g8 g5 g4 => ⟨rfl, ?_⟩) (fun hlt T2 => ⟨rfl, ?_⟩))
          · skip
            rw [e8] at hlt
            have hst : (ordF v (p ++ [c]) (-1, 0)) = (v c, c) := by rw [ordF_app, if_pos hlt]
            have f8 : E2 0 8 = (ordF v (p ++ [c]) (-1, 0)).1 := by rw [hst]; exact g8
            have f5 : isP mb (E2 5) (dg mb (ordF v (p ++ [c]) (-1, 0)).2) := by rw [hst]; intro j hj; rw [g5 j (by omega)]; exact hP j hj
            have hP2 : isP mb (E2 4) (dg mb c) := by rw [g4]; exact hP
            refine V_ald0 dX3_chooseOrder_59 ?_
            refine V_ald1 dX3_chooseOrder_60 ?_
            refine V_getI dX3_chooseOrder_61 flX3_90 ((hS.tr 3 rfl).1 0 (0, 5) rfl) ?_
            refine V_eqI (by rw [va_up_no _ _ (by decide), va_up_no _ _ (by decide), hN3]; exact hk.e2 : _ = nI mb) ?_
            refine V_iv1 dX3_chooseOrder_64 wlX3_101 mdX3_stepToNextOrder miX3_stepToNextOrder rfl (hS.r30.1 0 (0, 3) rfl) rfl rfl (kX3_stepToNextOrder hS hm (by omega) hP2 (fun hr => ⟨rfl, ?_⟩) (fun r hr hr0 E3 q4 qc => ⟨rfl, ?_⟩))
            · skip
              refine V_ist3 dX3_chooseOrder_67 rfl ?_
              refine V_incN4 dX3_chooseOrder_68 rfl ?_
              refine V_goto (tgt := 33) dX3_chooseOrder_71 (by decide) ?_
              refine V_ild4 dX3_chooseOrder_33 ?_
              refine V_sipush (v := nI 720) dX3_chooseOrder_35 (by decide) ?_
              refine V_icmpgeN (tgt := 74) dX3_chooseOrder_38 (by decide) (by omega) (by omega) (fun c38 => ?_) (fun c38 => ?_)
              · skip
                refine V_return dX3_chooseOrder_74 rfl ?_
                cases l with
                | nil => exact hQ2 _ _ f8 f5 rfl
                | cons c2 t =>
                  rw [chN, Bool.and_eq_true, Bool.and_eq_true, Bool.and_eq_true] at hch
                  exact absurd (Nat.blt_eq.mp hch.1.1.1) (by omega)
              · skip
                refine V_ild3 dX3_chooseOrder_41 ?_
                refine V_ifeq (tgt := 74) dX3_chooseOrder_42 (by decide) (fun _ => ?_) (fun c42 => absurd rfl c42)
                refine V_return dX3_chooseOrder_74 rfl ?_
                cases l with
                | nil => exact hQ2 _ _ f8 f5 rfl
                | cons c2 t =>
                  rw [chN, Bool.and_eq_true, Bool.and_eq_true, Bool.and_eq_true] at hch
                  exact absurd (Nat.blt_eq.mp hch.1.1.1) (by omega)
            · skip
              refine V_ist3 dX3_chooseOrder_67 rfl ?_
              refine V_incN4 dX3_chooseOrder_68 rfl ?_
              refine V_goto (tgt := 33) dX3_chooseOrder_71 (by decide) ?_
              cases l with
              | nil => rw [chN] at hch; exact absurd (Nat.eq_of_beq_eq_true hch) (by omega)
              | cons c2 t =>
                rw [chN, Bool.and_eq_true, Bool.and_eq_true, Bool.and_eq_true] at hch
                have hc2 := Nat.eq_of_beq_eq_true hch.1.1.2
                exact ih t (by rw [List.length_cons] at hlen; omega) (p ++ [c]) c2 (k + 1) _ _ (by rw [hL, List.append_assoc]; rfl) hch.2 (by rw [List.length_cons] at hk7; omega) (fun j hj => ⟨by rw [(q4 j hj).1, ← hc2, dg_enc (fun j hj => by have := (q4 j hj).2; omega) hj], by rw [← hc2, dg_enc (fun j hj => by have := (q4 j hj).2; omega) hj]; exact (q4 j hj).2⟩) (by rw [qc 0 (by decide)]; exact f8) (fun _ => by rw [qc 5 (by decide)]; exact f5)
          · skip
            rw [e8] at hlt
            have hst : (ordF v (p ++ [c]) (-1, 0)) = ordF v p (-1, 0) := by rw [ordF_app, if_neg hlt]
            have hnn : 0 ≤ (ordF v p (-1, 0)).1 := Int32.le_trans (hv0 c hcL) (Int32.not_lt.mp hlt)
            have f8 : E 0 8 = (ordF v (p ++ [c]) (-1, 0)).1 := by rw [hst]; exact e8
            have f5 : isP mb (E 5) (dg mb (ordF v (p ++ [c]) (-1, 0)).2) := by rw [hst]; exact i5 hnn
            have hP2 := hP
            refine V_ald0 dX3_chooseOrder_59 ?_
            refine V_ald1 dX3_chooseOrder_60 ?_
            refine V_getI dX3_chooseOrder_61 flX3_90 ((hS.tr 3 rfl).1 0 (0, 5) rfl) ?_
            refine V_eqI (by rw [va_up_no _ _ (by decide), va_up_no _ _ (by decide), hN3]; exact hk.e2 : _ = nI mb) ?_
            refine V_iv1 dX3_chooseOrder_64 wlX3_101 mdX3_stepToNextOrder miX3_stepToNextOrder rfl (hS.r30.1 0 (0, 3) rfl) rfl rfl (kX3_stepToNextOrder hS hm (by omega) hP2 (fun hr => ⟨rfl, ?_⟩) (fun r hr hr0 E3 q4 qc => ⟨rfl, ?_⟩))
            · skip
              refine V_ist3 dX3_chooseOrder_67 rfl ?_
              refine V_incN4 dX3_chooseOrder_68 rfl ?_
              refine V_goto (tgt := 33) dX3_chooseOrder_71 (by decide) ?_
              refine V_ild4 dX3_chooseOrder_33 ?_
              refine V_sipush (v := nI 720) dX3_chooseOrder_35 (by decide) ?_
              refine V_icmpgeN (tgt := 74) dX3_chooseOrder_38 (by decide) (by omega) (by omega) (fun c38 => ?_) (fun c38 => ?_)
              · skip
                refine V_return dX3_chooseOrder_74 rfl ?_
                cases l with
                | nil => exact hQ2 _ _ f8 f5 rfl
                | cons c2 t =>
                  rw [chN, Bool.and_eq_true, Bool.and_eq_true, Bool.and_eq_true] at hch
                  exact absurd (Nat.blt_eq.mp hch.1.1.1) (by omega)
              · skip
                refine V_ild3 dX3_chooseOrder_41 ?_
                refine V_ifeq (tgt := 74) dX3_chooseOrder_42 (by decide) (fun _ => ?_) (fun c42 => absurd rfl c42)
                refine V_return dX3_chooseOrder_74 rfl ?_
                cases l with
                | nil => exact hQ2 _ _ f8 f5 rfl
                | cons c2 t =>
                  rw [chN, Bool.and_eq_true, Bool.and_eq_true, Bool.and_eq_true] at hch
                  exact absurd (Nat.blt_eq.mp hch.1.1.1) (by omega)
            · skip
              refine V_ist3 dX3_chooseOrder_67 rfl ?_
              refine V_incN4 dX3_chooseOrder_68 rfl ?_
              refine V_goto (tgt := 33) dX3_chooseOrder_71 (by decide) ?_
              cases l with
              | nil => rw [chN] at hch; exact absurd (Nat.eq_of_beq_eq_true hch) (by omega)
              | cons c2 t =>
                rw [chN, Bool.and_eq_true, Bool.and_eq_true, Bool.and_eq_true] at hch
                have hc2 := Nat.eq_of_beq_eq_true hch.1.1.2
                exact ih t (by rw [List.length_cons] at hlen; omega) (p ++ [c]) c2 (k + 1) _ _ (by rw [hL, List.append_assoc]; rfl) hch.2 (by rw [List.length_cons] at hk7; omega) (fun j hj => ⟨by rw [(q4 j hj).1, ← hc2, dg_enc (fun j hj => by have := (q4 j hj).2; omega) hj], by rw [← hc2, dg_enc (fun j hj => by have := (q4 j hj).2; omega) hj]; exact (q4 j hj).2⟩) (by rw [qc 0 (by decide)]; exact f8) (fun _ => by rw [qc 5 (by decide)]; exact f5)
        · skip
          have hno := hsk p c l hL hf
          have hst : (ordF v (p ++ [c]) (-1, 0)) = ordF v p (-1, 0) := by rw [ordF_app, if_neg hno]
          have hnn : 0 ≤ (ordF v p (-1, 0)).1 := Int32.le_trans (hv0 c hcL) (Int32.not_lt.mp hno)
          have f8 : E 0 8 = (ordF v (p ++ [c]) (-1, 0)).1 := by rw [hst]; exact e8
          have f5 : isP mb (E 5) (dg mb (ordF v (p ++ [c]) (-1, 0)).2) := by rw [hst]; exact i5 hnn
          have hP2 := hP
          refine V_ifeq (tgt := 59) dX3_chooseOrder_50 (by decide) (fun _ => ?_) (fun c50 => absurd rfl c50)
          refine V_ald0 dX3_chooseOrder_59 ?_
          refine V_ald1 dX3_chooseOrder_60 ?_
          refine V_getI dX3_chooseOrder_61 flX3_90 ((hS.tr 3 rfl).1 0 (0, 5) rfl) ?_
          refine V_eqI (by rw [va_up_no _ _ (by decide), va_up_no _ _ (by decide), hN3]; exact hk.e2 : _ = nI mb) ?_
          refine V_iv1 dX3_chooseOrder_64 wlX3_101 mdX3_stepToNextOrder miX3_stepToNextOrder rfl (hS.r30.1 0 (0, 3) rfl) rfl rfl (kX3_stepToNextOrder hS hm (by omega) hP2 (fun hr => ⟨rfl, ?_⟩) (fun r hr hr0 E3 q4 qc => ⟨rfl, ?_⟩))
          · skip
            refine V_ist3 dX3_chooseOrder_67 rfl ?_
            refine V_incN4 dX3_chooseOrder_68 rfl ?_
            refine V_goto (tgt := 33) dX3_chooseOrder_71 (by decide) ?_
            refine V_ild4 dX3_chooseOrder_33 ?_
            refine V_sipush (v := nI 720) dX3_chooseOrder_35 (by decide) ?_
            refine V_icmpgeN (tgt := 74) dX3_chooseOrder_38 (by decide) (by omega) (by omega) (fun c38 => ?_) (fun c38 => ?_)
            · skip
              refine V_return dX3_chooseOrder_74 rfl ?_
              cases l with
              | nil => exact hQ2 _ _ f8 f5 rfl
              | cons c2 t =>
                rw [chN, Bool.and_eq_true, Bool.and_eq_true, Bool.and_eq_true] at hch
                exact absurd (Nat.blt_eq.mp hch.1.1.1) (by omega)
            · skip
              refine V_ild3 dX3_chooseOrder_41 ?_
              refine V_ifeq (tgt := 74) dX3_chooseOrder_42 (by decide) (fun _ => ?_) (fun c42 => absurd rfl c42)
              refine V_return dX3_chooseOrder_74 rfl ?_
              cases l with
              | nil => exact hQ2 _ _ f8 f5 rfl
              | cons c2 t =>
                rw [chN, Bool.and_eq_true, Bool.and_eq_true, Bool.and_eq_true] at hch
                exact absurd (Nat.blt_eq.mp hch.1.1.1) (by omega)
          · skip
            refine V_ist3 dX3_chooseOrder_67 rfl ?_
            refine V_incN4 dX3_chooseOrder_68 rfl ?_
            refine V_goto (tgt := 33) dX3_chooseOrder_71 (by decide) ?_
            cases l with
            | nil => rw [chN] at hch; exact absurd (Nat.eq_of_beq_eq_true hch) (by omega)
            | cons c2 t =>
              rw [chN, Bool.and_eq_true, Bool.and_eq_true, Bool.and_eq_true] at hch
              have hc2 := Nat.eq_of_beq_eq_true hch.1.1.2
              exact ih t (by rw [List.length_cons] at hlen; omega) (p ++ [c]) c2 (k + 1) _ _ (by rw [hL, List.append_assoc]; rfl) hch.2 (by rw [List.length_cons] at hk7; omega) (fun j hj => ⟨by rw [(q4 j hj).1, ← hc2, dg_enc (fun j hj => by have := (q4 j hj).2; omega) hj], by rw [← hc2, dg_enc (fun j hj => by have := (q4 j hj).2; omega) hj]; exact (q4 j hj).2⟩) (by rw [qc 0 (by decide)]; exact f8) (fun _ => by rw [qc 5 (by decide)]; exact f5)

  exact fun l => key _ l (Nat.lt_succ_self _)
theorem kX3_chooseOrder (hS : xSt Y G) (hN3 : N 3 = S) {mb pn : Nat} (hk : tOK mb pn S) (hm : 1 ≤ mb) {n : Nat} (hn : n ≤ 60) {v : Nat → Int32} (hv : ∀ T c, c ∈ pL mb → tWt (tRunOn mb n (tReW (dg mb c) (S 6) (tLike T S) mb)) (tBits (tRunOn mb n (tReW (dg mb c) (S 6) (tLike T S) mb)) (nI 9) (nI 9) mb) mb = v c) (hv0 : ∀ c, c ∈ pL mb → 0 ≤ v c) (hsk : ∀ p c l, pL mb = p ++ c :: l → ¬ firstA mb (dg mb c) (S 6) → ¬ (ordF v p (-1, 0)).1 < v c) (hQ : ∀ T2 E2, E2 0 8 = (ordF v (pL mb) (-1, 0)).1 → isP mb (E2 5) (dg mb (ordF v (pL mb) (-1, 0)).2) → Q none Y G (va_up (va_up N 31 T2) 30 E2)) : V RX3 false cX3_chooseOrder 5 none none (d + 5) b 0 [some (xR 30 0), some (xR 3 0), some (xI (nI n)), none, none] [] Y G (va_up (va_up N 31 T) 30 E) Q := by
  have hmb := hk.mb
  refine V_ald0 dX3_chooseOrder_0 ?_
  refine V_iconst (v := (-1)) dX3_chooseOrder_1 (by decide) ?_
  refine V_putIr dX3_chooseOrder_2 fwX3_41 (hS.r30.1 0 (0, 3) rfl) ?_
  refine V_iconst (v := nI 0) dX3_chooseOrder_5 (by decide) ?_
  refine V_ist3 dX3_chooseOrder_6 rfl ?_
  refine xDown (P := fun i => ∀ E, E 0 8 = -1 → (∀ j, j < i → E 4 j = nI j) → V RX3 false cX3_chooseOrder 5 none none (d + 5) b 7 [some (xR 30 0), some (xR 3 0), some (xI (nI n)), some (xI (nI i)), none] [] Y G (va_up (va_up N 31 T) 30 E) Q) mb ?_ 0 (Nat.zero_le _) _ rfl (fun j hj => absurd hj (by omega)) 
  intro i hii hni E e8 e4
  refine V_ild3 dX3_chooseOrder_7 ?_
  refine V_ald1 dX3_chooseOrder_8 ?_
  refine V_getI dX3_chooseOrder_9 flX3_90 ((hS.tr 3 rfl).1 0 (0, 5) rfl) ?_
  refine V_eqI (by rw [va_up_no _ _ (by decide), va_up_no _ _ (by decide), hN3]; exact hk.e2 : _ = nI mb) ?_
  refine V_icmpgeN (tgt := 28) dX3_chooseOrder_12 (by decide) (by omega) (by omega) (fun c12 => ?_) (fun c12 => ?_)
  · skip
    obtain ⟨o1, o2, o3, o4, t, o5⟩ := ordC hm hmb
    refine V_iconst (v := 1) dX3_chooseOrder_28 (by decide) ?_
    refine V_ist3 dX3_chooseOrder_29 rfl ?_
    refine V_iconst (v := nI 0) dX3_chooseOrder_30 (by decide) ?_
    refine V_ist4 dX3_chooseOrder_31 rfl ?_
    exact xOrd hS hN3 hk hm hn hv hv0 hsk hQ t [] _ 0 T _ o5 (by rw [← o5]; exact o1) (by rw [o5, List.length_cons] at o4; omega) (fun j hj => by rw [dg_enc (fun j hj => by omega) hj]; exact ⟨e4 j (by omega), hj⟩) e8 (fun h => absurd (show (0 : Int32) ≤ -1 from h) (by decide))
  · skip
    refine V_ald0 dX3_chooseOrder_15 ?_
    refine V_getR dX3_chooseOrder_16 flX3_25 (hS.r30.1 0 (0, 3) rfl) (hS.r30.2 3 (30, 4) rfl) ?_
    refine V_ild3 dX3_chooseOrder_19 ?_
    refine V_ild3 dX3_chooseOrder_20 ?_
    refine V_iasr dX3_chooseOrder_21 (hS.r30.1 4 (1, 6) rfl) (by omega) (by decide) ?_
    refine V_incN3 dX3_chooseOrder_22 rfl ?_
    refine V_goto (tgt := 7) dX3_chooseOrder_25 (by decide) ?_
    exact hni (by omega) _ (by first | exact e8 | (rw [va_up_no _ _ (by decide)]; exact e8)) (fun j hj => by
      rw [va_up_eq]
      by_cases e : j = i
      · rw [e, upd_eq]
      · rw [upd_no _ _ e]; exact e4 j (by omega))
end KS
