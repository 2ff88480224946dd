/-! MARBLERUN -/
def cSt (T : xT) (mb pn : Nat) : Prop := T 0 2 = nI mb ∧ T 0 3 = nI pn ∧ ((mb = 0 ∧ pn = 0) ∨ (1 ≤ mb ∧ tOK mb pn T))
theorem cSt.okm {T : xT} {mb pn m : Nat} (h : cSt T mb pn) (hm : m < mb) : tOK mb pn T := by
  rcases h.2.2 with q | q
  · exact absurd hm (by omega)
  · exact q.2
theorem cSt.okp {T : xT} {mb pn p : Nat} (h : cSt T mb pn) (hp : p < pn) : tOK mb pn T := by
  rcases h.2.2 with q | q
  · exact absurd hp (by omega)
  · exact q.2
theorem cSt.b6 {T : xT} {mb pn : Nat} (h : cSt T mb pn) : mb ≤ 6 ∧ pn ≤ 8 := by
  rcases h.2.2 with q | q
  · omega
  · exact ⟨q.2.mb, q.2.pn⟩
theorem cSt.ok0 {T : xT} {mb pn : Nat} (h : cSt T mb pn) (hp : ¬ nI pn = 0) : 1 ≤ mb ∧ tOK mb pn T := by
  rcases h.2.2 with q | q
  · exact absurd (by rw [q.2]; rfl) hp
  · exact q
/-- all stays but what the seer scribbles -/
def cStay (N N2 : xM) : Prop := ∀ r, r ≠ 30 → r ≠ 31 → N2 r = N r
theorem cStay.rf (N : xM) : cStay N N := fun _ _ _ => rfl
theorem cStay.a (N : xM) (T E : xT) : cStay N (va_up (va_up N 31 T) 30 E) := fun r h0 h1 => by rw [va_up_no _ _ h0, va_up_no _ _ h1]
theorem cStay.b (N : xM) (T : xT) : cStay N (va_up N 31 T) := fun r h0 h1 => by rw [va_up_no _ _ h1]
section XR
variable {own : String} {ini : Bool} {cc : ByteArray} {nL : Nat} {ret : Option FieldType} {X : Option (Nat × (Nat → Int32))} {d : Nat} {b : Nat × Nat} {pc : Nat} {loc : List (Option xAV)} {st : List xAV} {Y : xY} {G : xG} {N : xM} {Q : Option xAV → xY → xG → xM → Prop}
theorem V_in1 (r : Nat) (k : V own ini cc nL ret X d b pc loc st Y G (va_up N r (N r)) Q) : V own ini cc nL ret X d b pc loc st Y G N Q := by rw [va_up_id] at k; exact k
theorem V_in2 (k : V own ini cc nL ret X d b pc loc st Y G (va_up (va_up N 31 (N 31)) 30 (N 30)) Q) : V own ini cc nL ret X d b pc loc st Y G N Q := by rw [va_up_id, va_up_id] at k; exact k
end XR
section K6
variable {d : Nat} {b : Nat × Nat} {Y : xY} {G : xG} {N : xM} {T : xT} {Q : Option xAV → xY → xG → xM → Prop}
theorem kX6_outside {v a z : Int32} (hQ : Q (some (xI (if ¬ rIn v a z then 1 else 0))) Y G N) : V RX6 false cX6_outside 3 (some .boolean) none d b 0 [some (xI v), some (xI a), some (xI z)] [] Y G N Q := by
  refine V_ild0 dX6_outside_0 ?_
  refine V_ild1 dX6_outside_1 ?_
  refine V_icmplt (tgt := 10) dX6_outside_2 (by decide) (fun c2 => ?_) (fun c2 => ?_)
  · skip
    refine V_iconst (v := 1) dX6_outside_10 (by decide) ?_
    refine V_goto (tgt := 15) dX6_outside_11 (by decide) ?_
    refine V_ireturn dX6_outside_15 ⟨_, rfl, xbool (by first | exact Or.inl rfl | exact Or.inr rfl | exact xite01 _)⟩ ?_
    rw [if_pos (fun h => h.1 c2)] at hQ
    exact hQ
  · skip
    refine V_ild0 dX6_outside_5 ?_
    refine V_ild2 dX6_outside_6 ?_
    refine V_icmple (tgt := 14) dX6_outside_7 (by decide) (fun c7 => ?_) (fun c7 => ?_)
    · skip
      refine V_iconst (v := 0) dX6_outside_14 (by decide) ?_
      refine V_ireturn dX6_outside_15 ⟨_, rfl, xbool (by first | exact Or.inl rfl | exact Or.inr rfl | exact xite01 _)⟩ ?_
      rw [if_neg (fun h => h ⟨c2, Int32.not_lt.mpr c7⟩)] at hQ
      exact hQ
    · skip
      refine V_iconst (v := 1) dX6_outside_10 (by decide) ?_
      refine V_goto (tgt := 15) dX6_outside_11 (by decide) ?_
      refine V_ireturn dX6_outside_15 ⟨_, rfl, xbool (by first | exact Or.inl rfl | exact Or.inr rfl | exact xite01 _)⟩ ?_
      rw [if_pos (fun h => h.2 (Int32.not_le.mp c7))] at hQ
      exact hQ
theorem kX6_noSide {v : Int32} (hQ : Q (some (xI (if ¬ rIn v (nI 0) (nI 1) then 1 else 0))) Y G N) : V RX6 false cX6_noSide 1 (some .boolean) none (d + 1) b 0 [some (xI v)] [] Y G N Q := by
  refine V_ild0 dX6_noSide_0 ?_
  refine V_iconst (v := nI 0) dX6_noSide_1 (by decide) ?_
  refine V_iconst (v := nI 1) dX6_noSide_2 (by decide) ?_
  refine V_is3 dX6_noSide_3 wlX6_217 mdX6_outside msX6_outside rfl rfl (kX6_outside ⟨rfl, ?_⟩)
  refine V_ireturn dX6_noSide_6 ⟨_, rfl, xbool (by first | exact Or.inl rfl | exact Or.inr rfl | exact xite01 _)⟩ ?_
  exact hQ
theorem kX6_noRow {v : Int32} (hQ : Q (some (xI (if ¬ rIn v (nI 0) (nI 7) then 1 else 0))) Y G N) : V RX6 false cX6_noRow 1 (some .boolean) none (d + 1) b 0 [some (xI v)] [] Y G N Q := by
  refine V_ild0 dX6_noRow_0 ?_
  refine V_iconst (v := nI 0) dX6_noRow_1 (by decide) ?_
  refine V_bipush (v := nI 7) dX6_noRow_2 (by decide) ?_
  refine V_is3 dX6_noRow_4 wlX6_217 mdX6_outside msX6_outside rfl rfl (kX6_outside ⟨rfl, ?_⟩)
  refine V_ireturn dX6_noRow_7 ⟨_, rfl, xbool (by first | exact Or.inl rfl | exact Or.inr rfl | exact xite01 _)⟩ ?_
  exact hQ
theorem kX6_noRun (hS : xSt Y G) (hN3 : N 3 = T) {mb pn : Nat} (hc : cSt T mb pn) (hQ : Q (some (xI (if nI pn = 0 then 1 else 0))) Y G N) : V RX6 false cX6_noRun 1 (some .boolean) none d b 0 [some (xR 0 0)] [] Y G N Q := by
  refine V_ald0 dX6_noRun_0 ?_
  refine V_getR dX6_noRun_1 flX6_26 (hS.r0.1 0 (0, 6) rfl) (hS.r0.2 2 (3, 0) rfl) ?_
  refine V_getI dX6_noRun_4 flX6_134 ((hS.tr 3 rfl).1 0 (0, 5) rfl) ?_
  refine V_eqI (by rw [hN3]; exact hc.2.1 : _ = nI pn) ?_
  refine V_ifne (tgt := 14) dX6_noRun_7 (by decide) (fun c7 => ?_) (fun c7 => ?_)
  · skip
    refine V_iconst (v := 0) dX6_noRun_14 (by decide) ?_
    refine V_ireturn dX6_noRun_15 ⟨_, rfl, xbool (by first | exact Or.inl rfl | exact Or.inr rfl | exact xite01 _)⟩ ?_
    rw [if_neg c7] at hQ
    exact hQ
  · skip
    refine V_iconst (v := 1) dX6_noRun_10 (by decide) ?_
    refine V_goto (tgt := 15) dX6_noRun_11 (by decide) ?_
    refine V_ireturn dX6_noRun_15 ⟨_, rfl, xbool (by first | exact Or.inl rfl | exact Or.inr rfl | exact xite01 _)⟩ ?_
    rw [if_pos c7] at hQ
    exact hQ
theorem kX6_noPiece (hS : xSt Y G) (hN3 : N 3 = T) {mb pn : Nat} (hc : cSt T mb pn) {v : Int32} (hQ : Q (some (xI (if ¬ rIn v (nI 0) (nI pn - nI 1) then 1 else 0))) Y G N) : V RX6 false cX6_noPiece 2 (some .boolean) none (d + 1) b 0 [some (xR 0 0), some (xI v)] [] Y G N Q := by
  refine V_ild1 dX6_noPiece_0 ?_
  refine V_iconst (v := nI 0) dX6_noPiece_1 (by decide) ?_
  refine V_ald0 dX6_noPiece_2 ?_
  refine V_getR dX6_noPiece_3 flX6_26 (hS.r0.1 0 (0, 6) rfl) (hS.r0.2 2 (3, 0) rfl) ?_
  refine V_getI dX6_noPiece_6 flX6_134 ((hS.tr 3 rfl).1 0 (0, 5) rfl) ?_
  refine V_eqI (by rw [hN3]; exact hc.2.1 : _ = nI pn) ?_
  refine V_iconst (v := nI 1) dX6_noPiece_9 (by decide) ?_
  refine V_isub dX6_noPiece_10 ?_
  refine V_is3 dX6_noPiece_11 wlX6_217 mdX6_outside msX6_outside rfl rfl (kX6_outside ⟨rfl, ?_⟩)
  refine V_ireturn dX6_noPiece_14 ⟨_, rfl, xbool (by first | exact Or.inl rfl | exact Or.inr rfl | exact xite01 _)⟩ ?_
  exact hQ
theorem kX6_noMarble (hS : xSt Y G) (hN3 : N 3 = T) {mb pn : Nat} (hc : cSt T mb pn) {v : Int32} (hQ : Q (some (xI (if ¬ rIn v (nI 0) (nI mb - nI 1) then 1 else 0))) Y G N) : V RX6 false cX6_noMarble 2 (some .boolean) none (d + 1) b 0 [some (xR 0 0), some (xI v)] [] Y G N Q := by
  refine V_ild1 dX6_noMarble_0 ?_
  refine V_iconst (v := nI 0) dX6_noMarble_1 (by decide) ?_
  refine V_ald0 dX6_noMarble_2 ?_
  refine V_getR dX6_noMarble_3 flX6_26 (hS.r0.1 0 (0, 6) rfl) (hS.r0.2 2 (3, 0) rfl) ?_
  refine V_getI dX6_noMarble_6 flX6_242 ((hS.tr 3 rfl).1 0 (0, 5) rfl) ?_
  refine V_eqI (by rw [hN3]; exact hc.1 : _ = nI mb) ?_
  refine V_iconst (v := nI 1) dX6_noMarble_9 (by decide) ?_
  refine V_isub dX6_noMarble_10 ?_
  refine V_is3 dX6_noMarble_11 wlX6_217 mdX6_outside msX6_outside rfl rfl (kX6_outside ⟨rfl, ?_⟩)
  refine V_ireturn dX6_noMarble_14 ⟨_, rfl, xbool (by first | exact Or.inl rfl | exact Or.inr rfl | exact xite01 _)⟩ ?_
  exact hQ
theorem kX6_ahead (hS : xSt Y G) (hN3 : N 3 = T) {mb pn : Nat} (hc : cSt T mb pn) {a z v : Int32} (hv : ∀ m k, a = nI m → m < mb → z = nI k → k ≤ 60 → tOK mb pn T → ∀ U, tRunOn mb k (tLike U T) 8 m = v) (hQ : ∀ N2, cStay N N2 → Q (some (xI (if rIn a (nI 0) (nI mb - nI 1) ∧ rIn z (nI 0) (nI 60) then v else -1000001))) Y G N2) : V RX6 false cX6_ahead 3 (some .int) none (d + 5) b 0 [some (xR 0 0), some (xI a), some (xI z)] [] Y G N Q := by
  refine V_ald0 dX6_ahead_0 ?_
  refine V_ild1 dX6_ahead_1 ?_
  refine V_iv1 dX6_ahead_2 wlX6_180 mdX6_noMarble miX6_noMarble rfl (hS.r0.1 0 (0, 6) rfl) rfl rfl (kX6_noMarble hS hN3 hc ⟨rfl, ?_⟩)
  refine V_ifneB (tgt := 18) dX6_ahead_5 (by decide) (fun c5 => ?_) (fun c5 => ?_)
  · skip
    refine V_ldc dX6_ahead_18 wkX6_69 ?_
    refine V_ireturn dX6_ahead_20 ⟨_, rfl, vp_nar_int _⟩ ?_
    have hq := hQ N (cStay.rf N)
    rw [if_neg (fun h => c5 h.1)] at hq
    exact hq
  · replace c5 := Classical.not_not.mp c5
    refine V_ild2 dX6_ahead_8 ?_
    refine V_iconst (v := nI 0) dX6_ahead_9 (by decide) ?_
    refine V_bipush (v := nI 60) dX6_ahead_10 (by decide) ?_
    refine V_is3 dX6_ahead_12 wlX6_217 mdX6_outside msX6_outside rfl rfl (kX6_outside ⟨rfl, ?_⟩)
    refine V_ifeqB (tgt := 21) dX6_ahead_15 (by decide) (fun c15 => ?_) (fun c15 => ?_)
    · replace c15 := Classical.not_not.mp c15
      obtain ⟨m, hm, rfl⟩ := rIn_m c5 (by have := hc.b6; omega)
      obtain ⟨k, hk0, hk1, rfl⟩ := rIn_k c15 (by decide) (by decide)
      have hk := hc.okm hm
      have hb := hc.b6
      refine V_ald0 dX6_ahead_21 ?_
      refine V_getR dX6_ahead_22 flX6_43 (hS.r0.1 0 (0, 6) rfl) (hS.r0.2 5 (30, 0) rfl) ?_
      refine V_ald0 dX6_ahead_25 ?_
      refine V_getR dX6_ahead_26 flX6_26 (hS.r0.1 0 (0, 6) rfl) (hS.r0.2 2 (3, 0) rfl) ?_
      refine V_ild2 dX6_ahead_29 ?_
      refine V_in1 31 ?_
      refine V_iv2 dX6_ahead_30 wlX6_220 mdX3_behind miX3_behind rfl (hS.r30.1 0 (0, 3) rfl) rfl rfl (kX3_behind hS hN3 hk hk1 ⟨rfl, ?_⟩)
      refine V_getR dX6_ahead_33 flX6_196 ((hS.tr 31 rfl).1 0 (0, 5) rfl) (show G 31 0 7 = some (31, 8) from (hS.tr 31 rfl).2 7 (by decide) (by decide)) ?_
      refine V_ild1 dX6_ahead_36 ?_
      refine V_ia dX6_ahead_37 ((hS.tr 31 rfl).1 8 (1, 6) rfl) (by omega) (by decide) ?_
      refine V_eqI (by rw [va_up_eq]; exact hv m k rfl hm rfl hk1 hk _ : _ = v) ?_
      refine V_ireturn dX6_ahead_38 ⟨_, rfl, vp_nar_int _⟩ ?_
      have hq := hQ _ (cStay.b N (tRunOn mb k (tLike (N 31) T)))
      rw [if_pos ⟨c5, c15⟩] at hq
      exact hq
    · skip
      refine V_ldc dX6_ahead_18 wkX6_69 ?_
      refine V_ireturn dX6_ahead_20 ⟨_, rfl, vp_nar_int _⟩ ?_
      have hq := hQ N (cStay.rf N)
      rw [if_neg (fun h => c15 h.2)] at hq
      exact hq
theorem kX6_stands (hS : xSt Y G) (hN3 : N 3 = T) {mb pn : Nat} (hc : cSt T mb pn) {a z y v : Int32} (hv : ∀ m k, a = nI m → m < pn → z = nI k → k ≤ 60 → tOK mb pn T → ∀ U, (if y = nI (0 + 0) then tRunOn mb k (tLike U T) 10 m else if y = nI (0 + 1) then tRunOn mb k (tLike U T) 13 m else if y = nI (0 + 2) then tRunOn mb k (tLike U T) 14 m else tRunOn mb k (tLike U T) 15 m) = v) (hQ : ∀ N2, cStay N N2 → Q (some (xI (if rIn a (nI 0) (nI pn - nI 1) ∧ rIn z (nI 0) (nI 60) ∧ rIn y (nI 0) (nI 3) then v else -1000001))) Y G N2) : V RX6 false cX6_stands 5 (some .int) none (d + 5) b 0 [some (xR 0 0), some (xI a), some (xI z), some (xI y), none] [] Y G N Q := by
  refine V_ald0 dX6_stands_0 ?_
  refine V_ild1 dX6_stands_1 ?_
  refine V_iv1 dX6_stands_2 wlX6_160 mdX6_noPiece miX6_noPiece rfl (hS.r0.1 0 (0, 6) rfl) rfl rfl (kX6_noPiece hS hN3 hc ⟨rfl, ?_⟩)
  refine V_ifneB (tgt := 27) dX6_stands_5 (by decide) (fun c5 => ?_) (fun c5 => ?_)
  · skip
    refine V_ldc dX6_stands_27 wkX6_69 ?_
    refine V_ireturn dX6_stands_29 ⟨_, rfl, vp_nar_int _⟩ ?_
    have hq := hQ N (cStay.rf N)
    rw [if_neg (fun h => c5 h.1)] at hq
    exact hq
  · replace c5 := Classical.not_not.mp c5
    refine V_ild2 dX6_stands_8 ?_
    refine V_iconst (v := nI 0) dX6_stands_9 (by decide) ?_
    refine V_bipush (v := nI 60) dX6_stands_10 (by decide) ?_
    refine V_is3 dX6_stands_12 wlX6_217 mdX6_outside msX6_outside rfl rfl (kX6_outside ⟨rfl, ?_⟩)
    refine V_ifneB (tgt := 27) dX6_stands_15 (by decide) (fun c15 => ?_) (fun c15 => ?_)
    · skip
      refine V_ldc dX6_stands_27 wkX6_69 ?_
      refine V_ireturn dX6_stands_29 ⟨_, rfl, vp_nar_int _⟩ ?_
      have hq := hQ N (cStay.rf N)
      rw [if_neg (fun h => c15 h.2.1)] at hq
      exact hq
    · replace c15 := Classical.not_not.mp c15
      refine V_ild3 dX6_stands_18 ?_
      refine V_iconst (v := nI 0) dX6_stands_19 (by decide) ?_
      refine V_iconst (v := nI 3) dX6_stands_20 (by decide) ?_
      refine V_is3 dX6_stands_21 wlX6_217 mdX6_outside msX6_outside rfl rfl (kX6_outside ⟨rfl, ?_⟩)
      refine V_ifeqB (tgt := 30) dX6_stands_24 (by decide) (fun c24 => ?_) (fun c24 => ?_)
      · replace c24 := Classical.not_not.mp c24
        obtain ⟨m, hm, rfl⟩ := rIn_m c5 (by have := hc.b6; omega)
        obtain ⟨k, hk0, hk1, rfl⟩ := rIn_k c15 (by decide) (by decide)
        have hk := hc.okp hm
        have hb := hc.b6
        refine V_ald0 dX6_stands_30 ?_
        refine V_getR dX6_stands_31 flX6_43 (hS.r0.1 0 (0, 6) rfl) (hS.r0.2 5 (30, 0) rfl) ?_
        refine V_ald0 dX6_stands_34 ?_
        refine V_getR dX6_stands_35 flX6_26 (hS.r0.1 0 (0, 6) rfl) (hS.r0.2 2 (3, 0) rfl) ?_
        refine V_ild2 dX6_stands_38 ?_
        refine V_in1 31 ?_
        refine V_iv2 dX6_stands_39 wlX6_220 mdX3_behind miX3_behind rfl (hS.r30.1 0 (0, 3) rfl) rfl rfl (kX3_behind hS hN3 hk hk1 ⟨rfl, ?_⟩)
        refine V_ast4 dX6_stands_42 rfl ?_
        refine V_ild3 dX6_stands_44 ?_
        refine V_tsw3 (lo := 0) (t0 := 72) (t1 := 80) (t2 := 88) (td := 96) dX6_stands_45 (by decide) (by decide) (by decide) (by decide) (fun s45 => ?_) (fun s45 => ?_) (fun s45 => ?_) (fun s45_0 s45_1 s45_2 => ?_)
        · skip
          refine V_ald4 dX6_stands_72 ?_
          refine V_getR dX6_stands_74 flX6_167 ((hS.tr 31 rfl).1 0 (0, 5) rfl) (show G 31 0 9 = some (31, 10) from (hS.tr 31 rfl).2 9 (by decide) (by decide)) ?_
          refine V_ild1 dX6_stands_77 ?_
          refine V_ia dX6_stands_78 ((hS.tr 31 rfl).1 10 (1, 8) rfl) (by omega) (by decide) ?_
          refine V_eqI (by rw [va_up_eq] : _ = tRunOn mb k (tLike (N 31) T) 10 m) ?_
          refine V_ireturn dX6_stands_79 ⟨_, rfl, vp_nar_int _⟩ ?_
          have hq := hQ _ (cStay.b N (tRunOn mb k (tLike (N 31) T)))
          have hvv := hv m k rfl hm rfl hk1 hk (N 31)
          rw [if_pos s45] at hvv
          rw [if_pos ⟨c5, c15, c24⟩, ← hvv] at hq
          exact hq
        · skip
          refine V_ald4 dX6_stands_80 ?_
          refine V_getR dX6_stands_82 flX6_199 ((hS.tr 31 rfl).1 0 (0, 5) rfl) (show G 31 0 12 = some (31, 13) from (hS.tr 31 rfl).2 12 (by decide) (by decide)) ?_
          refine V_ild1 dX6_stands_85 ?_
          refine V_ia dX6_stands_86 ((hS.tr 31 rfl).1 13 (1, 8) rfl) (by omega) (by decide) ?_
          refine V_eqI (by rw [va_up_eq] : _ = tRunOn mb k (tLike (N 31) T) 13 m) ?_
          refine V_ireturn dX6_stands_87 ⟨_, rfl, vp_nar_int _⟩ ?_
          have hq := hQ _ (cStay.b N (tRunOn mb k (tLike (N 31) T)))
          have hvv := hv m k rfl hm rfl hk1 hk (N 31)
          rw [if_neg (fun e => xne s45 e (by decide)), if_pos s45] at hvv
          rw [if_pos ⟨c5, c15, c24⟩, ← hvv] at hq
          exact hq
        · skip
          refine V_ald4 dX6_stands_88 ?_
          refine V_getR dX6_stands_90 flX6_202 ((hS.tr 31 rfl).1 0 (0, 5) rfl) (show G 31 0 13 = some (31, 14) from (hS.tr 31 rfl).2 13 (by decide) (by decide)) ?_
          refine V_ild1 dX6_stands_93 ?_
          refine V_ia dX6_stands_94 ((hS.tr 31 rfl).1 14 (1, 8) rfl) (by omega) (by decide) ?_
          refine V_eqI (by rw [va_up_eq] : _ = tRunOn mb k (tLike (N 31) T) 14 m) ?_
          refine V_ireturn dX6_stands_95 ⟨_, rfl, vp_nar_int _⟩ ?_
          have hq := hQ _ (cStay.b N (tRunOn mb k (tLike (N 31) T)))
          have hvv := hv m k rfl hm rfl hk1 hk (N 31)
          rw [if_neg (fun e => xne s45 e (by decide)), if_neg (fun e => xne s45 e (by decide)), if_pos s45] at hvv
          rw [if_pos ⟨c5, c15, c24⟩, ← hvv] at hq
          exact hq
        · skip
          refine V_ald4 dX6_stands_96 ?_
          refine V_getR dX6_stands_98 flX6_205 ((hS.tr 31 rfl).1 0 (0, 5) rfl) (show G 31 0 14 = some (31, 15) from (hS.tr 31 rfl).2 14 (by decide) (by decide)) ?_
          refine V_ild1 dX6_stands_101 ?_
          refine V_ia dX6_stands_102 ((hS.tr 31 rfl).1 15 (1, 8) rfl) (by omega) (by decide) ?_
          refine V_eqI (by rw [va_up_eq] : _ = tRunOn mb k (tLike (N 31) T) 15 m) ?_
          refine V_ireturn dX6_stands_103 ⟨_, rfl, vp_nar_int _⟩ ?_
          have hq := hQ _ (cStay.b N (tRunOn mb k (tLike (N 31) T)))
          have hvv := hv m k rfl hm rfl hk1 hk (N 31)
          rw [if_neg s45_0, if_neg s45_1, if_neg s45_2] at hvv
          rw [if_pos ⟨c5, c15, c24⟩, ← hvv] at hq
          exact hq
      · skip
        refine V_ldc dX6_stands_27 wkX6_69 ?_
        refine V_ireturn dX6_stands_29 ⟨_, rfl, vp_nar_int _⟩ ?_
        have hq := hQ N (cStay.rf N)
        rw [if_neg (fun h => c24 h.2.2)] at hq
        exact hq
end K6
