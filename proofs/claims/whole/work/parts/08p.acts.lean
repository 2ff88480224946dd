theorem rNotes_no (S : xT) (a : Nat) {c : Nat} (h0 : c ≠ 0) (h14 : c ≠ 14) : rNotes S a c = S c := by
  unfold rNotes rN1 rN0
  split
  · rw [va_up_no _ _ h0, va_up_no _ _ h14, va_up_no _ _ h0, va_up_no _ _ h14]
  · rw [va_up_no _ _ h0, va_up_no _ _ h14]
theorem rNotes_o (S : xT) (a : Nat) {k : Nat} (hk : k ≠ 14) : rNotes S a 0 k = S 0 k := by
  unfold rNotes rN1 rN0
  split
  · rw [va_up_eq, upd_no _ _ hk, va_up_no _ _ (by decide), va_up_eq, upd_no _ _ hk, va_up_no _ _ (by decide)]
  · rw [va_up_eq, upd_no _ _ hk, va_up_no _ _ (by decide)]
def nxA (a : Nat) : Nat := if a = 24 then 24 else a + 1
theorem rNotes_a (S : xT) (a : Nat) : rNotes S a 0 14 = nI (nxA a) := by
  unfold rNotes nxA rN1
  split
  · rw [va_up_eq, upd_eq]
  · rw [va_up_eq, upd_eq]
theorem nxA_le {a : Nat} (h : a ≤ 24) : nxA a ≤ 24 := by unfold nxA; split <;> omega
theorem rNotes_eq (S : xT) (a : Nat) : oEq (rNotes S a 0) (S 0) := ⟨rNotes_o S a (by decide), rNotes_o S a (by decide), rNotes_o S a (by decide), rNotes_o S a (by decide)⟩
theorem rOK.notes {S : xT} {mb pn : Nat} (h : rOK (S 0) (S 11) mb pn (S 13)) (a : Nat) : rOK (rNotes S a 0) (rNotes S a 11) mb pn (rNotes S a 13) := by
  rw [rNotes_no S a (c := 11) (by decide) (by decide), rNotes_no S a (c := 13) (by decide) (by decide)]
  exact h.oeq (rNotes_eq S a)
def rTkS (S : xT) (a mb : Nat) : xT := va_up (rNotes S a) 13 (rTick (rNotes S a 0) (rNotes S a 11) mb (rNotes S a 13))
def rTks (mb : Nat) : Nat → Nat → xT → xT
  | 0, _, S => S
  | n + 1, a, S => rTks mb n (nxA a) (rTkS S a mb)
theorem rOK.tks {S : xT} {mb pn : Nat} (h : rOK (S 0) (S 11) mb pn (S 13)) (a : Nat) : rOK (rTkS S a mb 0) (rTkS S a mb 11) mb pn (rTkS S a mb 13) := (h.notes a).tick
section KM
variable {d : Nat} {b : Nat × Nat} {Y : xY} {G : xG} {N : xM} {S : xT} {f : Nat → Int32} {Q : Option xAV → xY → xG → xM → Prop} {c : Nat}
section ZZ
variable {own : String} {ini : Bool} {cc : ByteArray} {nL : Nat} {ret : Option FieldType} {X : Option (Nat × (Nat → Int32))} {pc : Nat} {loc : List (Option xAV)} {st : List xAV} {r : Nat} {T : xT}
theorem V_zar {n j : Nat} (hd : decode cc pc = .ok (.baload, 1)) (hY : ((r, c), (4, n)) ∈ Y) (hj : j < n) (hn : n < 2 ^ 31) (k : V own ini cc nL ret X d b (pc + 1) loc (xI (T c j) :: st) Y G (va_up N r T) Q) : V own ini cc nL ret X d b pc loc (xI (nI j) :: xR r c :: st) Y G (va_up N r T) Q := V_zaload hd hY (vp_in_nI hj hn) (by rw [nI_clamp (Nat.lt_trans hj hn), va_up_eq]; exact k)
theorem V_zasr {n j : Nat} {x : Int32} (hd : decode cc pc = .ok (.bastore, 1)) (hY : ((r, c), (4, n)) ∈ Y) (hj : j < n) (hn : n < 2 ^ 31) (hz : vp_nar .boolean x = x) (k : V own ini cc nL ret X d b (pc + 1) loc st Y G (va_up N r (va_up T c (upd (T c) j x))) Q) : V own ini cc nL ret X d b pc loc (xI x :: xI (nI j) :: xR r c :: st) Y G (va_up N r T) Q := V_zastore hd hY (vp_in_nI hj hn) hz (by rw [nI_clamp (Nat.lt_trans hj hn), xp_up, va_up_eq]; exact k)
end ZZ
theorem kX7_tip (hM : xMo Y G) {mb pn : Nat} (hr : rSt S mb pn) {an : Nat} (han : S 0 14 = nI an) (ha : an ≤ 24) {a : Int32} (hB : ¬ rIn a (nI 0) (nI pn - nI 1) → Q (some (xI (-1000001))) Y G (va_up N 40 S)) (hO : ∀ p, a = nI p → p < pn → Q (some (xI (nI 1 - S 13 (1 + p)))) Y G (va_up N 40 (va_up (rNotes S an) 13 (upd (S 13) (1 + p) (nI 1 - S 13 (1 + p)))))) : V RX7 false cX7_tip 2 (some .int) none (d + 2) b 0 [some (xR 40 0), some (xI a)] [] Y G (va_up N 40 S) Q := by
  refine V_ald0 dX7_tip_0 ?_
  refine V_ild1 dX7_tip_1 ?_
  refine V_iv1 dX7_tip_2 wlX7_189 mdX7_isPiece miX7_isPiece rfl (hM.1 0 (0, 7) rfl) rfl rfl (kX7_isPiece hM ⟨rfl, ?_⟩)
  rw [hr.2.1]
  refine V_ifneB (tgt := 11) dX7_tip_5 (by decide) (fun c5 => ?_) (fun c5 => ?_)
  · skip
    obtain ⟨p, hp, rfl⟩ := rIn_m c5 (by have := hr.b6; omega)
    have hb := hr.b6
    refine V_ald0 dX7_tip_11 ?_
    refine V_iv0 dX7_tip_12 wlX7_178 mdX7_notes miX7_notes rfl (hM.1 0 (0, 7) rfl) rfl rfl (kX7_notes hM han ha ⟨rfl, ?_⟩)
    refine V_ald0 dX7_tip_15 ?_
    refine V_getR dX7_tip_16 flX7_25 (hM.1 0 (0, 7) rfl) (show G 40 0 12 = some (40, 13) from hM.2 12 (1, 67) rfl) ?_
    refine V_iconst (v := nI 1) dX7_tip_19 (by decide) ?_
    refine V_ild1 dX7_tip_20 ?_
    refine V_iaddN dX7_tip_21 ?_
    refine V_iconst (v := nI 1) dX7_tip_22 (by decide) ?_
    refine V_ald0 dX7_tip_23 ?_
    refine V_getR dX7_tip_24 flX7_25 (hM.1 0 (0, 7) rfl) (show G 40 0 12 = some (40, 13) from hM.2 12 (1, 67) rfl) ?_
    refine V_iconst (v := nI 1) dX7_tip_27 (by decide) ?_
    refine V_ild1 dX7_tip_28 ?_
    refine V_iaddN dX7_tip_29 ?_
    refine V_iar dX7_tip_30 (hM.1 13 (1, 67) rfl) (by omega) (by decide) ?_
    refine V_eqI (by rw [rNotes_no S an (by decide) (by decide)] : _ = S 13 (1 + p)) ?_
    refine V_isub dX7_tip_31 ?_
    refine V_iasr dX7_tip_32 (hM.1 13 (1, 67) rfl) (by omega) (by decide) ?_
    refine V_ald0 dX7_tip_33 ?_
    refine V_getR dX7_tip_34 flX7_25 (hM.1 0 (0, 7) rfl) (show G 40 0 12 = some (40, 13) from hM.2 12 (1, 67) rfl) ?_
    refine V_iconst (v := nI 1) dX7_tip_37 (by decide) ?_
    refine V_ild1 dX7_tip_38 ?_
    refine V_iaddN dX7_tip_39 ?_
    refine V_iar dX7_tip_40 (hM.1 13 (1, 67) rfl) (by omega) (by decide) ?_
    refine V_ireturn dX7_tip_41 ⟨_, rfl, vp_nar_int _⟩ ?_
    rw [va_up_eq, upd_eq, rNotes_no S an (c := 13) (by decide) (by decide)]
    exact hO p rfl hp
  · skip
    refine V_ldc dX7_tip_8 wkX7_84 ?_
    refine V_ireturn dX7_tip_10 ⟨_, rfl, vp_nar_int _⟩ ?_
    exact hB c5
theorem kX7_lead (hM : xMo Y G) {mb pn : Nat} (hr : rSt S mb pn) {an : Nat} (han : S 0 14 = nI an) (ha : an ≤ 24) {a y z : Int32} (hB : ¬ (rIn a (nI 0) (nI pn - nI 1) ∧ rIn y (nI 0) (nI 1) ∧ rIn z (a + nI 1) (nI 9)) → Q (some (xI (-1000001))) Y G (va_up N 40 S)) (h0 : ∀ p q, a = nI p → p < pn → z = nI q → p < q → q ≤ 9 → y = 0 → Q (some (xI (S 13 (9 + p)))) Y G (va_up N 40 (va_up (rNotes S an) 13 (upd (S 13) (9 + p) (nI q))))) (h1 : ∀ p q, a = nI p → p < pn → z = nI q → p < q → q ≤ 9 → ¬ y = 0 → rIn y (nI 0) (nI 1) → Q (some (xI (S 13 (17 + p)))) Y G (va_up N 40 (va_up (rNotes S an) 13 (upd (S 13) (17 + p) (nI q))))) : V RX7 false cX7_lead 6 (some .int) none (d + 2) b 0 [some (xR 40 0), some (xI a), some (xI y), some (xI z), none, none] [] Y G (va_up N 40 S) Q := by
  refine V_ald0 dX7_lead_0 ?_
  refine V_ild1 dX7_lead_1 ?_
  refine V_iv1 dX7_lead_2 wlX7_189 mdX7_isPiece miX7_isPiece rfl (hM.1 0 (0, 7) rfl) rfl rfl (kX7_isPiece hM ⟨rfl, ?_⟩)
  rw [hr.2.1]
  refine V_ifeqB (tgt := 29) dX7_lead_5 (by decide) (fun c5 => ?_) (fun c5 => ?_)
  · skip
    refine V_ldc dX7_lead_29 wkX7_84 ?_
    refine V_ireturn dX7_lead_31 ⟨_, rfl, vp_nar_int _⟩ ?_
    exact hB (fun h => c5 h.1)
  · skip
    refine V_ild2 dX7_lead_8 ?_
    refine V_iconst (v := nI 0) dX7_lead_9 (by decide) ?_
    refine V_iconst (v := nI 1) dX7_lead_10 (by decide) ?_
    refine V_is3 dX7_lead_11 wlX7_70 mdX7_in msX7_in rfl rfl (kX7_in ⟨rfl, ?_⟩)
    refine V_ifeqB (tgt := 29) dX7_lead_14 (by decide) (fun c14 => ?_) (fun c14 => ?_)
    · skip
      refine V_ldc dX7_lead_29 wkX7_84 ?_
      refine V_ireturn dX7_lead_31 ⟨_, rfl, vp_nar_int _⟩ ?_
      exact hB (fun h => c14 h.2.1)
    · skip
      refine V_ild3 dX7_lead_17 ?_
      refine V_ild1 dX7_lead_18 ?_
      refine V_iconst (v := nI 1) dX7_lead_19 (by decide) ?_
      refine V_iadd dX7_lead_20 ?_
      refine V_bipush (v := nI 9) dX7_lead_21 (by decide) ?_
      refine V_is3 dX7_lead_23 wlX7_70 mdX7_in msX7_in rfl rfl (kX7_in ⟨rfl, ?_⟩)
      refine V_ifneB (tgt := 32) dX7_lead_26 (by decide) (fun c26 => ?_) (fun c26 => ?_)
      · skip
        obtain ⟨p, hp, rfl⟩ := rIn_m c5 (by have := hr.b6; omega)
        have hb := hr.b6
        have c26b := c26
        rw [nI_add] at c26b
        obtain ⟨q, hq0, hq1, rfl⟩ := rIn_k c26b (by decide) (by omega)
        refine V_ild2 dX7_lead_32 ?_
        refine V_ifne (tgt := 43) dX7_lead_33 (by decide) (fun c33 => ?_) (fun c33 => ?_)
        · skip
          refine V_bipush (v := nI 17) dX7_lead_43 (by decide) ?_
          refine V_ild1 dX7_lead_45 ?_
          refine V_iaddN dX7_lead_46 ?_
          refine V_ist4 dX7_lead_47 rfl ?_
          refine V_ald0 dX7_lead_49 ?_
          refine V_getR dX7_lead_50 flX7_25 (hM.1 0 (0, 7) rfl) (show G 40 0 12 = some (40, 13) from hM.2 12 (1, 67) rfl) ?_
          refine V_ild4 dX7_lead_53 ?_
          refine V_iar dX7_lead_55 (hM.1 13 (1, 67) rfl) (by omega) (by decide) ?_
          refine V_ist5 dX7_lead_56 rfl ?_
          refine V_ald0 dX7_lead_58 ?_
          refine V_iv0 dX7_lead_59 wlX7_178 mdX7_notes miX7_notes rfl (hM.1 0 (0, 7) rfl) rfl rfl (kX7_notes hM han ha ⟨rfl, ?_⟩)
          refine V_ald0 dX7_lead_62 ?_
          refine V_getR dX7_lead_63 flX7_25 (hM.1 0 (0, 7) rfl) (show G 40 0 12 = some (40, 13) from hM.2 12 (1, 67) rfl) ?_
          refine V_ild4 dX7_lead_66 ?_
          refine V_ild3 dX7_lead_68 ?_
          refine V_iasr dX7_lead_69 (hM.1 13 (1, 67) rfl) (by omega) (by decide) ?_
          refine V_ild5 dX7_lead_70 ?_
          refine V_ireturn dX7_lead_72 ⟨_, rfl, vp_nar_int _⟩ ?_
          rw [rNotes_no S an (c := 13) (by decide) (by decide)]
          exact h1 p q rfl hp rfl (by omega) hq1 c33 c14
        · skip
          refine V_bipush (v := nI 9) dX7_lead_36 (by decide) ?_
          refine V_ild1 dX7_lead_38 ?_
          refine V_iaddN dX7_lead_39 ?_
          refine V_goto (tgt := 47) dX7_lead_40 (by decide) ?_
          refine V_ist4 dX7_lead_47 rfl ?_
          refine V_ald0 dX7_lead_49 ?_
          refine V_getR dX7_lead_50 flX7_25 (hM.1 0 (0, 7) rfl) (show G 40 0 12 = some (40, 13) from hM.2 12 (1, 67) rfl) ?_
          refine V_ild4 dX7_lead_53 ?_
          refine V_iar dX7_lead_55 (hM.1 13 (1, 67) rfl) (by omega) (by decide) ?_
          refine V_ist5 dX7_lead_56 rfl ?_
          refine V_ald0 dX7_lead_58 ?_
          refine V_iv0 dX7_lead_59 wlX7_178 mdX7_notes miX7_notes rfl (hM.1 0 (0, 7) rfl) rfl rfl (kX7_notes hM han ha ⟨rfl, ?_⟩)
          refine V_ald0 dX7_lead_62 ?_
          refine V_getR dX7_lead_63 flX7_25 (hM.1 0 (0, 7) rfl) (show G 40 0 12 = some (40, 13) from hM.2 12 (1, 67) rfl) ?_
          refine V_ild4 dX7_lead_66 ?_
          refine V_ild3 dX7_lead_68 ?_
          refine V_iasr dX7_lead_69 (hM.1 13 (1, 67) rfl) (by omega) (by decide) ?_
          refine V_ild5 dX7_lead_70 ?_
          refine V_ireturn dX7_lead_72 ⟨_, rfl, vp_nar_int _⟩ ?_
          rw [rNotes_no S an (c := 13) (by decide) (by decide)]
          exact h0 p q rfl hp rfl (by omega) hq1 c33
      · skip
        refine V_ldc dX7_lead_29 wkX7_84 ?_
        refine V_ireturn dX7_lead_31 ⟨_, rfl, vp_nar_int _⟩ ?_
        exact hB (fun h => c26 h.2.2)
theorem kX7_again (hM : xMo Y G) {mb pn : Nat} (hr : rSt S mb pn) {an : Nat} (han : S 0 14 = nI an) (ha : an ≤ 24) {a z : Int32} (hB : ¬ (rIn a (nI 0) (nI mb - nI 1) ∧ rIn z (nI 1) (nI 9)) → Q (some (xI (-1000001))) Y G (va_up N 40 S)) (hT : ∀ m q, a = nI m → m < mb → z = nI q → 1 ≤ q → q ≤ 9 → ¬ rInTray (S 13) m → Q (some (xI (-1000002))) Y G (va_up N 40 S)) (hO : ∀ m q, a = nI m → m < mb → z = nI q → 1 ≤ q → q ≤ 9 → rInTray (S 13) m → Q (some (xI (rThose (rComes (S 13) m (nI q)) (nI 10) (nI 10) mb))) Y G (va_up N 40 (va_up (rNotes S an) 13 (rComes (S 13) m (nI q))))) : V RX7 false cX7_again 3 (some .int) none (d + 2) b 0 [some (xR 40 0), some (xI a), some (xI z)] [] Y G (va_up N 40 S) Q := by
  refine V_ald0 dX7_again_0 ?_
  refine V_ild1 dX7_again_1 ?_
  refine V_iv1 dX7_again_2 wlX7_192 mdX7_isMarble miX7_isMarble rfl (hM.1 0 (0, 7) rfl) rfl rfl (kX7_isMarble hM ⟨rfl, ?_⟩)
  rw [hr.1]
  refine V_ifeqB (tgt := 18) dX7_again_5 (by decide) (fun c5 => ?_) (fun c5 => ?_)
  · skip
    refine V_ldc dX7_again_18 wkX7_84 ?_
    refine V_ireturn dX7_again_20 ⟨_, rfl, vp_nar_int _⟩ ?_
    exact hB (fun h => c5 h.1)
  · skip
    refine V_ild2 dX7_again_8 ?_
    refine V_iconst (v := nI 1) dX7_again_9 (by decide) ?_
    refine V_bipush (v := nI 9) dX7_again_10 (by decide) ?_
    refine V_is3 dX7_again_12 wlX7_70 mdX7_in msX7_in rfl rfl (kX7_in ⟨rfl, ?_⟩)
    refine V_ifneB (tgt := 21) dX7_again_15 (by decide) (fun c15 => ?_) (fun c15 => ?_)
    · skip
      obtain ⟨m, hm, rfl⟩ := rIn_m c5 (by have := hr.b6; omega)
      have hb := hr.b6
      obtain ⟨q, hq0, hq1, rfl⟩ := rIn_k c15 (by decide) (by decide)
      refine V_ald0 dX7_again_21 ?_
      refine V_ald0 dX7_again_22 ?_
      refine V_getR dX7_again_23 flX7_25 (hM.1 0 (0, 7) rfl) (show G 40 0 12 = some (40, 13) from hM.2 12 (1, 67) rfl) ?_
      refine V_ild1 dX7_again_26 ?_
      refine V_sub 40 13 ?_
      refine V_iv2 dX7_again_27 wlX7_195 mdX7_isInTray miX7_isInTray rfl (hM.1 0 (0, 7) rfl) rfl rfl (kX7_isInTray (c := 13) (f := S 13) (hM.1 13 (1, 67) rfl) (by omega) ⟨rfl, ?_⟩)
      rw [va_up_id]
      refine V_ifneB (tgt := 36) dX7_again_30 (by decide) (fun c30 => ?_) (fun c30 => ?_)
      · skip
        refine V_ald0 dX7_again_36 ?_
        refine V_iv0 dX7_again_37 wlX7_178 mdX7_notes miX7_notes rfl (hM.1 0 (0, 7) rfl) rfl rfl (kX7_notes hM han ha ⟨rfl, ?_⟩)
        refine V_ald0 dX7_again_40 ?_
        refine V_getR dX7_again_41 flX7_25 (hM.1 0 (0, 7) rfl) (show G 40 0 12 = some (40, 13) from hM.2 12 (1, 67) rfl) ?_
        refine V_ild1 dX7_again_44 ?_
        refine V_ild2 dX7_again_45 ?_
        refine V_sub 40 13 ?_
        rw [rNotes_no S an (c := 13) (by decide) (by decide)]
        refine V_is3 dX7_again_46 wlX7_199 mdX7_comes msX7_comes rfl rfl (kX7_comes (c := 13) (hM.1 13 (1, 67) rfl) (by omega) ⟨rfl, ?_⟩)
        refine V_ald0 dX7_again_49 ?_
        refine V_ald0 dX7_again_50 ?_
        refine V_getR dX7_again_51 flX7_25 (hM.1 0 (0, 7) rfl) (show G 40 0 12 = some (40, 13) from hM.2 12 (1, 67) rfl) ?_
        refine V_bipush (v := nI 10) dX7_again_54 (by decide) ?_
        refine V_bipush (v := nI 10) dX7_again_56 (by decide) ?_
        refine V_iv3 dX7_again_58 wlX7_185 mdX7_those miX7_those rfl (hM.1 0 (0, 7) rfl) rfl rfl (kX7_those (c := 13) hM (by decide) (hM.1 13 (1, 67) rfl) (show rNotes S an 0 8 = nI mb from (rNotes_o S an (by decide)).trans hr.1) hr.b6.1 ⟨rfl, ?_⟩)
        refine V_ireturn dX7_again_61 ⟨_, rfl, vp_nar_int _⟩ ?_
        exact hO m q rfl hm rfl hq0 hq1 c30
      · skip
        refine V_ldc dX7_again_33 wkX7_173 ?_
        refine V_ireturn dX7_again_35 ⟨_, rfl, vp_nar_int _⟩ ?_
        exact hT m q rfl hm rfl hq0 hq1 c30
    · skip
      refine V_ldc dX7_again_18 wkX7_84 ?_
      refine V_ireturn dX7_again_20 ⟨_, rfl, vp_nar_int _⟩ ?_
      exact hB (fun h => c15 h.2)
theorem kX7_ticks (hM : xMo Y G) {mb pn : Nat} (hr : rSt S mb pn) {an : Nat} (han : S 0 14 = nI an) (ha : an ≤ 24) {a : Int32} (h0 : nI pn = 0 → Q (some (xI (-1000002))) Y G (va_up N 40 S)) (hB : ¬ nI pn = 0 → ¬ rIn a (nI 1) (nI 24) → Q (some (xI (-1000001))) Y G (va_up N 40 S)) (hF : ¬ nI pn = 0 → rIn a (nI 1) (nI 24) → nI 999 < S 13 0 + a → Q (some (xI (-1000003))) Y G (va_up N 40 S)) (hO : ∀ n, a = nI n → 1 ≤ n → n ≤ 24 → ¬ nI pn = 0 → ¬ nI 999 < S 13 0 + a → Q (some (xI (rThose (rTks mb n an S 13) (nI 9) (nI 9) mb))) Y G (va_up N 40 (rTks mb n an S))) : V RX7 false cX7_ticks 3 (some .int) none (d + 3) b 0 [some (xR 40 0), some (xI a), none] [] Y G (va_up N 40 S) Q := by
  refine V_ald0 dX7_ticks_0 ?_
  refine V_iv0 dX7_ticks_1 wlX7_174 mdX7_isNone miX7_isNone rfl (hM.1 0 (0, 7) rfl) rfl rfl (kX7_isNone hM ⟨rfl, ?_⟩)
  rw [hr.2.1]
  refine V_ifeqB (tgt := 10) dX7_ticks_4 (by decide) (fun c4 => ?_) (fun c4 => ?_)
  · skip
    refine V_ild1 dX7_ticks_10 ?_
    refine V_iconst (v := nI 1) dX7_ticks_11 (by decide) ?_
    refine V_bipush (v := nI 24) dX7_ticks_12 (by decide) ?_
    refine V_is3 dX7_ticks_14 wlX7_70 mdX7_in msX7_in rfl rfl (kX7_in ⟨rfl, ?_⟩)
    refine V_ifneB (tgt := 23) dX7_ticks_17 (by decide) (fun c17 => ?_) (fun c17 => ?_)
    · skip
      refine V_ald0 dX7_ticks_23 ?_
      refine V_getR dX7_ticks_24 flX7_25 (hM.1 0 (0, 7) rfl) (show G 40 0 12 = some (40, 13) from hM.2 12 (1, 67) rfl) ?_
      refine V_iconst (v := nI 0) dX7_ticks_27 (by decide) ?_
      refine V_iar dX7_ticks_28 (hM.1 13 (1, 67) rfl) (by decide) (by decide) ?_
      refine V_ild1 dX7_ticks_29 ?_
      refine V_iadd dX7_ticks_30 ?_
      refine V_sipush (v := nI 999) dX7_ticks_31 (by decide) ?_
      refine V_icmple (tgt := 40) dX7_ticks_34 (by decide) (fun c34 => ?_) (fun c34 => ?_)
      · skip
        obtain ⟨n, hn0, hn1, rfl⟩ := rIn_k c17 (by decide) (by decide)
        have hk := (hr.ok0 c4).2
        refine V_iconst (v := nI 0) dX7_ticks_40 (by decide) ?_
        refine V_ist2 dX7_ticks_41 rfl ?_
        refine xDown (P := fun i => ∀ S2 a2, S2 0 14 = nI a2 → a2 ≤ 24 → rOK (S2 0) (S2 11) mb pn (S2 13) → Q (some (xI (rThose (rTks mb (n - i) a2 S2 13) (nI 9) (nI 9) mb))) Y G (va_up N 40 (rTks mb (n - i) a2 S2)) → V RX7 false cX7_ticks 3 (some .int) none (d + 3) b 42 [some (xR 40 0), some (xI (nI n)), some (xI (nI i))] [] Y G (va_up N 40 S2) Q) n ?_ 0 (Nat.zero_le _) S an han ha hk (hO n rfl hn0 hn1 c4 (Int32.not_lt.mpr c34)) 
        intro i hii hni S2 a2 ea ha2 hk2 hq
        refine V_ild2 dX7_ticks_42 ?_
        refine V_ild1 dX7_ticks_43 ?_
        refine V_icmpgeN (tgt := 65) dX7_ticks_44 (by decide) (by omega) (by omega) (fun c44 => ?_) (fun c44 => ?_)
        · skip
          refine V_ald0 dX7_ticks_65 ?_
          refine V_ald0 dX7_ticks_66 ?_
          refine V_getR dX7_ticks_67 flX7_25 (hM.1 0 (0, 7) rfl) (show G 40 0 12 = some (40, 13) from hM.2 12 (1, 67) rfl) ?_
          refine V_bipush (v := nI 9) dX7_ticks_70 (by decide) ?_
          refine V_bipush (v := nI 9) dX7_ticks_72 (by decide) ?_
          refine V_sub 40 13 ?_
          refine V_iv3 dX7_ticks_74 wlX7_185 mdX7_those miX7_those rfl (hM.1 0 (0, 7) rfl) rfl rfl (kX7_those (c := 13) hM (by decide) (hM.1 13 (1, 67) rfl) hk2.e8 hk2.mb ⟨rfl, ?_⟩)
          rw [va_up_id]
          refine V_ireturn dX7_ticks_77 ⟨_, rfl, vp_nar_int _⟩ ?_
          rw [show n - i = 0 by omega, rTks] at hq
          exact hq
        · skip
          refine V_ald0 dX7_ticks_47 ?_
          refine V_iv0 dX7_ticks_48 wlX7_178 mdX7_notes miX7_notes rfl (hM.1 0 (0, 7) rfl) rfl rfl (kX7_notes hM ea ha2 ⟨rfl, ?_⟩)
          refine V_ald0 dX7_ticks_51 ?_
          refine V_ald0 dX7_ticks_52 ?_
          refine V_getR dX7_ticks_53 flX7_25 (hM.1 0 (0, 7) rfl) (show G 40 0 12 = some (40, 13) from hM.2 12 (1, 67) rfl) ?_
          refine V_sub 40 13 ?_
          refine V_iv1 dX7_ticks_56 wlX7_181 mdX7_tickOn miX7_tickOn rfl (hM.1 0 (0, 7) rfl) rfl rfl (kX7_tickOn (c := 13) hM (by decide) (by decide) (hM.1 13 (1, 67) rfl) (hk2.notes a2).e8 hk2.mb (hk2.notes a2).safe ⟨rfl, ?_⟩)
          refine V_incN2 dX7_ticks_59 rfl ?_
          refine V_goto (tgt := 42) dX7_ticks_62 (by decide) ?_
          rw [show n - i = n - (i + 1) + 1 by omega, rTks] at hq
          exact hni (by omega) _ _ ((show rTkS S2 a2 mb 0 14 = _ from rNotes_a S2 a2)) (nxA_le ha2) (hk2.tks a2) hq
      · skip
        refine V_ldc dX7_ticks_37 wkX7_99 ?_
        refine V_ireturn dX7_ticks_39 ⟨_, rfl, vp_nar_int _⟩ ?_
        exact hF c4 c17 (Int32.not_le.mp c34)
    · skip
      refine V_ldc dX7_ticks_20 wkX7_84 ?_
      refine V_ireturn dX7_ticks_22 ⟨_, rfl, vp_nar_int _⟩ ?_
      exact hB c4 c17
  · skip
    refine V_ldc dX7_ticks_7 wkX7_173 ?_
    refine V_ireturn dX7_ticks_9 ⟨_, rfl, vp_nar_int _⟩ ?_
    exact h0 c4
theorem kX7_image (hM : xMo Y G) {mb pn : Nat} (hr : rSt S mb pn) {a : Int32} (hB : ¬ rIn a (nI 0) (nI 1) → Q (some (xI (-1000001))) Y G (va_up N 40 S)) (h0 : rIn a (nI 0) (nI 1) → nI pn = 0 → Q (some (xI (-1000002))) Y G (va_up N 40 S)) (hO : ∀ k, a = nI k → k ≤ 1 → ¬ nI pn = 0 → ∀ S2, S2 17 = upd (S 17) k 1 → S2 16 (78 * k) = S 0 7 → S2 16 (78 * k + 1) = S 0 8 → S2 16 (78 * k + 2) = S 0 9 → (∀ j, j < 8 → S2 16 (78 * k + 3 + j) = S 11 j) → (∀ j, j < 67 → S2 16 (78 * k + 11 + j) = S 13 j) → (∀ q, q < 78 * k ∨ 78 * k + 78 ≤ q → S2 16 q = S 16 q) → (∀ c, c ≠ 16 → c ≠ 17 → S2 c = S c) → Q (some (xI 1)) Y G (va_up N 40 S2)) : V RX7 false cX7_image 3 (some .int) none (d + 1) b 0 [some (xR 40 0), some (xI a), none] [] Y G (va_up N 40 S) Q := by
  refine V_ild1 dX7_image_0 ?_
  refine V_iconst (v := nI 0) dX7_image_1 (by decide) ?_
  refine V_iconst (v := nI 1) dX7_image_2 (by decide) ?_
  refine V_is3 dX7_image_3 wlX7_70 mdX7_in msX7_in rfl rfl (kX7_in ⟨rfl, ?_⟩)
  refine V_ifneB (tgt := 12) dX7_image_6 (by decide) (fun c6 => ?_) (fun c6 => ?_)
  · skip
    refine V_ald0 dX7_image_12 ?_
    refine V_iv0 dX7_image_13 wlX7_174 mdX7_isNone miX7_isNone rfl (hM.1 0 (0, 7) rfl) rfl rfl (kX7_isNone hM ⟨rfl, ?_⟩)
    rw [hr.2.1]
    refine V_ifeqB (tgt := 22) dX7_image_16 (by decide) (fun c16 => ?_) (fun c16 => ?_)
    · skip
      obtain ⟨k, hk0, hk1, rfl⟩ := rIn_k c6 (by decide) (by decide)
      refine V_bipush (v := nI 78) dX7_image_22 (by decide) ?_
      refine V_ild1 dX7_image_24 ?_
      refine V_imulN dX7_image_25 ?_
      refine V_ist2 dX7_image_26 rfl ?_
      refine V_ald0 dX7_image_27 ?_
      refine V_getR dX7_image_28 flX7_34 (hM.1 0 (0, 7) rfl) (show G 40 0 16 = some (40, 17) from hM.2 16 (4, 2) rfl) ?_
      refine V_ild1 dX7_image_31 ?_
      refine V_iconst (v := 1) dX7_image_32 (by decide) ?_
      refine V_zasr dX7_image_33 (hM.1 17 (4, 2) rfl) (by omega) (by decide) rfl ?_
      refine V_ald0 dX7_image_34 ?_
      refine V_getR dX7_image_35 flX7_31 (hM.1 0 (0, 7) rfl) (show G 40 0 15 = some (40, 16) from hM.2 15 (1, 156) rfl) ?_
      refine V_ild2 dX7_image_38 ?_
      refine V_ald0 dX7_image_39 ?_
      refine V_getIr dX7_image_40 flX7_152 (hM.1 0 (0, 7) rfl) ?_
      refine V_iasr dX7_image_43 (hM.1 16 (1, 156) rfl) (by omega) (by decide) ?_
      refine V_ald0 dX7_image_44 ?_
      refine V_getR dX7_image_45 flX7_31 (hM.1 0 (0, 7) rfl) (show G 40 0 15 = some (40, 16) from hM.2 15 (1, 156) rfl) ?_
      refine V_ild2 dX7_image_48 ?_
      refine V_iconst (v := nI 1) dX7_image_49 (by decide) ?_
      refine V_iaddN dX7_image_50 ?_
      refine V_ald0 dX7_image_51 ?_
      refine V_getIr dX7_image_52 flX7_74 (hM.1 0 (0, 7) rfl) ?_
      refine V_iasr dX7_image_55 (hM.1 16 (1, 156) rfl) (by omega) (by decide) ?_
      refine V_ald0 dX7_image_56 ?_
      refine V_getR dX7_image_57 flX7_31 (hM.1 0 (0, 7) rfl) (show G 40 0 15 = some (40, 16) from hM.2 15 (1, 156) rfl) ?_
      refine V_ild2 dX7_image_60 ?_
      refine V_iconst (v := nI 2) dX7_image_61 (by decide) ?_
      refine V_iaddN dX7_image_62 ?_
      refine V_ald0 dX7_image_63 ?_
      refine V_getIr dX7_image_64 flX7_77 (hM.1 0 (0, 7) rfl) ?_
      refine V_iasr dX7_image_67 (hM.1 16 (1, 156) rfl) (by omega) (by decide) ?_
      refine V_ald0 dX7_image_68 ?_
      refine V_getR dX7_image_69 flX7_22 (hM.1 0 (0, 7) rfl) (show G 40 0 10 = some (40, 11) from hM.2 10 (1, 8) rfl) ?_
      refine V_iconst (v := nI 0) dX7_image_72 (by decide) ?_
      refine V_ald0 dX7_image_73 ?_
      refine V_getR dX7_image_74 flX7_31 (hM.1 0 (0, 7) rfl) (show G 40 0 15 = some (40, 16) from hM.2 15 (1, 156) rfl) ?_
      refine V_ild2 dX7_image_77 ?_
      refine V_iconst (v := nI 3) dX7_image_78 (by decide) ?_
      refine V_iaddN dX7_image_79 ?_
      refine V_bipush (v := nI 8) dX7_image_80 (by decide) ?_
      refine V_sub 40 16 ?_
      refine V_is5 dX7_image_82 wlX7_155 mdX7_bring msX7_bring rfl rfl (kX7_bring (c := 16) (a := 11) (by decide) (hM.1 11 (1, 8) rfl) (hM.1 16 (1, 156) rfl) (by decide) (by decide) (by omega) (by omega) ⟨rfl, ?_⟩)
      refine V_ald0 dX7_image_85 ?_
      refine V_getR dX7_image_86 flX7_25 (hM.1 0 (0, 7) rfl) (show G 40 0 12 = some (40, 13) from hM.2 12 (1, 67) rfl) ?_
      refine V_iconst (v := nI 0) dX7_image_89 (by decide) ?_
      refine V_ald0 dX7_image_90 ?_
      refine V_getR dX7_image_91 flX7_31 (hM.1 0 (0, 7) rfl) (show G 40 0 15 = some (40, 16) from hM.2 15 (1, 156) rfl) ?_
      refine V_ild2 dX7_image_94 ?_
      refine V_bipush (v := nI 11) dX7_image_95 (by decide) ?_
      refine V_iaddN dX7_image_97 ?_
      refine V_bipush (v := nI 67) dX7_image_98 (by decide) ?_
      refine V_sub 40 16 ?_
      refine V_is5 dX7_image_100 wlX7_155 mdX7_bring msX7_bring rfl rfl (kX7_bring (c := 16) (a := 13) (by decide) (hM.1 13 (1, 67) rfl) (hM.1 16 (1, 156) rfl) (by decide) (by decide) (by omega) (by omega) ⟨rfl, ?_⟩)
      refine V_iconst (v := 1) dX7_image_103 (by decide) ?_
      refine V_ireturn dX7_image_104 ⟨_, rfl, vp_nar_int _⟩ ?_
      refine hO k rfl hk1 c16 _ rfl ?_ ?_ ?_ ?_ ?_ ?_ (fun c h16 h17 => by rw [va_up_no _ _ h16, va_up_no _ _ h16, va_up_no _ _ h16, va_up_no _ _ h16, va_up_no _ _ h16, va_up_no _ _ h17])
      · rw [va_up_eq, rBring_at, if_neg (by omega), va_up_eq, rBring_at, if_neg (by omega), va_up_eq, upd_no _ _ (by omega), va_up_eq, upd_no _ _ (by omega), va_up_eq, upd_eq]; rfl
      · rw [va_up_eq, rBring_at, if_neg (by omega), va_up_eq, rBring_at, if_neg (by omega), va_up_eq, upd_no _ _ (by omega), va_up_eq, upd_eq]; rfl
      · rw [va_up_eq, rBring_at, if_neg (by omega), va_up_eq, rBring_at, if_neg (by omega), va_up_eq, upd_eq]; rfl
      · intro j hj
        rw [va_up_eq, rBring_at, if_neg (by omega), va_up_eq, rBring_at, if_pos (by omega), show 0 + (78 * k + 3 + j - (78 * k + 3)) = j by omega]; rfl
      · intro j hj
        rw [va_up_eq, rBring_at, if_pos (by omega), show 0 + (78 * k + 11 + j - (78 * k + 11)) = j by omega]; rfl
      · intro q hq
        rw [va_up_eq, rBring_at, if_neg (by omega), va_up_eq, rBring_at, if_neg (by omega), va_up_eq, upd_no _ _ (by omega), va_up_eq, upd_no _ _ (by omega), va_up_eq, upd_no _ _ (by omega)]; rfl
    · skip
      refine V_ldc dX7_image_19 wkX7_173 ?_
      refine V_ireturn dX7_image_21 ⟨_, rfl, vp_nar_int _⟩ ?_
      exact h0 c6 c16
  · skip
    refine V_ldc dX7_image_9 wkX7_84 ?_
    refine V_ireturn dX7_image_11 ⟨_, rfl, vp_nar_int _⟩ ?_
    exact hB c6
theorem kX7_restore (hM : xMo Y G) {a : Int32} (hB : ¬ rIn a (nI 0) (nI 1) → Q (some (xI (-1000001))) Y G (va_up N 40 S)) (h0 : ∀ k, a = nI k → k ≤ 1 → S 17 k = 0 → Q (some (xI (-1000002))) Y G (va_up N 40 S)) (hO : ∀ k, a = nI k → k ≤ 1 → ¬ S 17 k = 0 → ∀ S2, S2 0 = upd (upd (upd (upd (S 0) 7 (S 16 (78 * k))) 8 (S 16 (78 * k + 1))) 9 (S 16 (78 * k + 2))) 14 0 → (∀ j, j < 8 → S2 11 j = S 16 (78 * k + 3 + j)) → (∀ j, j < 67 → S2 13 j = S 16 (78 * k + 11 + j)) → (∀ c, c ≠ 0 → c ≠ 11 → c ≠ 13 → S2 c = S c) → Q (some (xI 1)) Y G (va_up N 40 S2)) : V RX7 false cX7_restore 3 (some .int) none (d + 1) b 0 [some (xR 40 0), some (xI a), none] [] Y G (va_up N 40 S) Q := by
  refine V_ild1 dX7_restore_0 ?_
  refine V_iconst (v := nI 0) dX7_restore_1 (by decide) ?_
  refine V_iconst (v := nI 1) dX7_restore_2 (by decide) ?_
  refine V_is3 dX7_restore_3 wlX7_70 mdX7_in msX7_in rfl rfl (kX7_in ⟨rfl, ?_⟩)
  refine V_ifneB (tgt := 12) dX7_restore_6 (by decide) (fun c6 => ?_) (fun c6 => ?_)
  · skip
    obtain ⟨k, hk0, hk1, rfl⟩ := rIn_k c6 (by decide) (by decide)
    refine V_ald0 dX7_restore_12 ?_
    refine V_getR dX7_restore_13 flX7_34 (hM.1 0 (0, 7) rfl) (show G 40 0 16 = some (40, 17) from hM.2 16 (4, 2) rfl) ?_
    refine V_ild1 dX7_restore_16 ?_
    refine V_zar dX7_restore_17 (hM.1 17 (4, 2) rfl) (by omega) (by decide) ?_
    refine V_ifne (tgt := 24) dX7_restore_18 (by decide) (fun c18 => ?_) (fun c18 => ?_)
    · skip
      refine V_bipush (v := nI 78) dX7_restore_24 (by decide) ?_
      refine V_ild1 dX7_restore_26 ?_
      refine V_imulN dX7_restore_27 ?_
      refine V_ist2 dX7_restore_28 rfl ?_
      refine V_ald0 dX7_restore_29 ?_
      refine V_ald0 dX7_restore_30 ?_
      refine V_getR dX7_restore_31 flX7_31 (hM.1 0 (0, 7) rfl) (show G 40 0 15 = some (40, 16) from hM.2 15 (1, 156) rfl) ?_
      refine V_ild2 dX7_restore_34 ?_
      refine V_iar dX7_restore_35 (hM.1 16 (1, 156) rfl) (by omega) (by decide) ?_
      refine V_putIr dX7_restore_36 fwX7_152 (hM.1 0 (0, 7) rfl) ?_
      refine V_ald0 dX7_restore_39 ?_
      refine V_ald0 dX7_restore_40 ?_
      refine V_getR dX7_restore_41 flX7_31 (hM.1 0 (0, 7) rfl) (show G 40 0 15 = some (40, 16) from hM.2 15 (1, 156) rfl) ?_
      refine V_ild2 dX7_restore_44 ?_
      refine V_iconst (v := nI 1) dX7_restore_45 (by decide) ?_
      refine V_iaddN dX7_restore_46 ?_
      refine V_iar dX7_restore_47 (hM.1 16 (1, 156) rfl) (by omega) (by decide) ?_
      refine V_putIr dX7_restore_48 fwX7_74 (hM.1 0 (0, 7) rfl) ?_
      refine V_ald0 dX7_restore_51 ?_
      refine V_ald0 dX7_restore_52 ?_
      refine V_getR dX7_restore_53 flX7_31 (hM.1 0 (0, 7) rfl) (show G 40 0 15 = some (40, 16) from hM.2 15 (1, 156) rfl) ?_
      refine V_ild2 dX7_restore_56 ?_
      refine V_iconst (v := nI 2) dX7_restore_57 (by decide) ?_
      refine V_iaddN dX7_restore_58 ?_
      refine V_iar dX7_restore_59 (hM.1 16 (1, 156) rfl) (by omega) (by decide) ?_
      refine V_putIr dX7_restore_60 fwX7_77 (hM.1 0 (0, 7) rfl) ?_
      refine V_ald0 dX7_restore_63 ?_
      refine V_getR dX7_restore_64 flX7_31 (hM.1 0 (0, 7) rfl) (show G 40 0 15 = some (40, 16) from hM.2 15 (1, 156) rfl) ?_
      refine V_ild2 dX7_restore_67 ?_
      refine V_iconst (v := nI 3) dX7_restore_68 (by decide) ?_
      refine V_iaddN dX7_restore_69 ?_
      refine V_ald0 dX7_restore_70 ?_
      refine V_getR dX7_restore_71 flX7_22 (hM.1 0 (0, 7) rfl) (show G 40 0 10 = some (40, 11) from hM.2 10 (1, 8) rfl) ?_
      refine V_iconst (v := nI 0) dX7_restore_74 (by decide) ?_
      refine V_bipush (v := nI 8) dX7_restore_75 (by decide) ?_
      refine V_sub 40 11 ?_
      refine V_is5 dX7_restore_77 wlX7_155 mdX7_bring msX7_bring rfl rfl (kX7_bring (c := 11) (a := 16) (by decide) (hM.1 16 (1, 156) rfl) (hM.1 11 (1, 8) rfl) (by decide) (by decide) (by omega) (by omega) ⟨rfl, ?_⟩)
      refine V_ald0 dX7_restore_80 ?_
      refine V_getR dX7_restore_81 flX7_31 (hM.1 0 (0, 7) rfl) (show G 40 0 15 = some (40, 16) from hM.2 15 (1, 156) rfl) ?_
      refine V_ild2 dX7_restore_84 ?_
      refine V_bipush (v := nI 11) dX7_restore_85 (by decide) ?_
      refine V_iaddN dX7_restore_87 ?_
      refine V_ald0 dX7_restore_88 ?_
      refine V_getR dX7_restore_89 flX7_25 (hM.1 0 (0, 7) rfl) (show G 40 0 12 = some (40, 13) from hM.2 12 (1, 67) rfl) ?_
      refine V_iconst (v := nI 0) dX7_restore_92 (by decide) ?_
      refine V_bipush (v := nI 67) dX7_restore_93 (by decide) ?_
      refine V_sub 40 13 ?_
      refine V_is5 dX7_restore_95 wlX7_155 mdX7_bring msX7_bring rfl rfl (kX7_bring (c := 13) (a := 16) (by decide) (hM.1 16 (1, 156) rfl) (hM.1 13 (1, 67) rfl) (by decide) (by decide) (by omega) (by omega) ⟨rfl, ?_⟩)
      refine V_ald0 dX7_restore_98 ?_
      refine V_iconst (v := 0) dX7_restore_99 (by decide) ?_
      refine V_putIr dX7_restore_100 fwX7_159 (hM.1 0 (0, 7) rfl) ?_
      refine V_iconst (v := 1) dX7_restore_103 (by decide) ?_
      refine V_ireturn dX7_restore_104 ⟨_, rfl, vp_nar_int _⟩ ?_
      refine hO k rfl hk1 c18 _ rfl ?_ ?_ (fun c h0 h11 h13 => by rw [va_up_no _ _ h0, va_up_no _ _ h13, va_up_no _ _ h11, va_up_no _ _ h0, va_up_no _ _ h0, va_up_no _ _ h0])
      · intro j hj
        rw [va_up_no _ _ (by decide), va_up_no _ _ (by decide), va_up_eq, rBring_at, if_pos (by omega), show 78 * k + 3 + (j - 0) = 78 * k + 3 + j by omega]; rfl
      · intro j hj
        rw [va_up_no _ _ (by decide), va_up_eq, rBring_at, if_pos (by omega), show 78 * k + 11 + (j - 0) = 78 * k + 11 + j by omega]; rfl
    · skip
      refine V_ldc dX7_restore_21 wkX7_173 ?_
      refine V_ireturn dX7_restore_23 ⟨_, rfl, vp_nar_int _⟩ ?_
      exact h0 k rfl hk1 c18
  · skip
    refine V_ldc dX7_restore_9 wkX7_84 ?_
    refine V_ireturn dX7_restore_11 ⟨_, rfl, vp_nar_int _⟩ ?_
    exact hB c6
end KM
