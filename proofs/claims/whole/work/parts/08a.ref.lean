/-! THE REFERENCE, its parts that foretell -/
def ag (f g : Nat → Int32) : Prop := ∀ j, j < 67 → f j = g j
theorem Sim.ag {mb pn : Nat} {T : xT} {o so f g : Nat → Int32} (h : Sim mb pn T o so f) (hm : mb ≤ 6) (hp : pn ≤ 8) (e : ag g f) : Sim mb pn T o so g := by
  obtain ⟨⟨a1, a2, a3, a4, a5, a6, a7, a8, a9⟩, b⟩ := h
  refine ⟨⟨a1, a2, a3, a4, a5, a6, a7, fun c hc j hj => ?_, fun c hc j hj => ?_⟩, b.trans (e 0 (by decide)).symm⟩
  · rw [a8 c hc j hj, e]
    rcases bsM_cases hc with rfl | rfl | rfl <;> simp only [bs] <;> omega
  · rw [a9 c hc j hj, e]
    rcases bsP_cases hc with rfl | rfl | rfl | rfl | rfl | rfl <;> simp only [bs] <;> omega
def rOK (o so : Nat → Int32) (mb pn : Nat) (f : Nat → Int32) : Prop := ∃ T, tOK mb pn T ∧ Sim mb pn T o so f
theorem rOK.ag {o so : Nat → Int32} {mb pn : Nat} {f g : Nat → Int32} (h : rOK o so mb pn f) (e : ag g f) : rOK o so mb pn g := h.elim fun T hT => ⟨T, hT.1, hT.2.ag hT.1.mb hT.1.pn e⟩
theorem rOK.mb {o so : Nat → Int32} {mb pn : Nat} {f : Nat → Int32} (h : rOK o so mb pn f) : mb ≤ 6 := h.elim fun _ hT => hT.1.mb
theorem rOK.pn {o so : Nat → Int32} {mb pn : Nat} {f : Nat → Int32} (h : rOK o so mb pn f) : pn ≤ 8 := h.elim fun _ hT => hT.1.pn
theorem rOK.p1 {o so : Nat → Int32} {mb pn : Nat} {f : Nat → Int32} (h : rOK o so mb pn f) : 1 ≤ pn := h.elim fun _ hT => hT.1.2.1
theorem rOK.e8 {o so : Nat → Int32} {mb pn : Nat} {f : Nat → Int32} (h : rOK o so mb pn f) : o 8 = nI mb := h.elim fun _ hT => hT.2.1.2.2.1
theorem rOK.e9 {o so : Nat → Int32} {mb pn : Nat} {f : Nat → Int32} (h : rOK o so mb pn f) : o 9 = nI pn := h.elim fun _ hT => hT.2.1.2.2.2.2.1
theorem rOK.safe {o so : Nat → Int32} {mb pn : Nat} {f : Nat → Int32} (h : rOK o so mb pn f) : rSafe o so mb f := h.elim fun _ hT => (pass_sim hT.2 hT.1).2.1
theorem rOK.tick {o so : Nat → Int32} {mb pn : Nat} {f : Nat → Int32} (h : rOK o so mb pn f) : rOK o so mb pn (rTick o so mb f) := h.elim fun _ hT => ⟨_, (pass_sim hT.2 hT.1).2.2.2, (pass_sim hT.2 hT.1).2.2.1⟩
def rGo (o so : Nat → Int32) (mb : Nat) : Nat → (Nat → Int32) → Nat → Int32
  | 0, f => f
  | n + 1, f => rGo o so mb n (rTick o so mb f)
theorem rOK.go {o so : Nat → Int32} {mb pn : Nat} : ∀ (n : Nat) {f : Nat → Int32}, rOK o so mb pn f → rOK o so mb pn (rGo o so mb n f)
  | 0, _, h => h
  | n + 1, _, h => rOK.go n h.tick
def rTipN (f : Nat → Int32) (s : Int32) : Nat → Nat → Int32
  | 0 => f
  | i + 1 => upd (rTipN f s i) (1 + i) (rTipN f s i (1 + i) ^^^ ((s >>> (nI i &&& 31)) &&& nI 1))
def rWt (f : Nat → Int32) (s : Int32) : Nat → Int32
  | 0 => nI 0
  | i + 1 => rWt f s i + ((s >>> (nI i &&& 31)) &&& nI 1) * f (55 + i)
def rWentA (f : Nat → Int32) : Nat → Int32
  | 0 => nI 0
  | i + 1 => rWentA f i + f (33 + i)
def rRows (g : Nat → Int32) : Nat → Int32
  | 0 => nI 0
  | i + 1 => rRows g i + (if g i < 0 then nI 0 else nI 1)
theorem rBring_at (g f : Nat → Int32) (i j : Nat) : ∀ n k, rBring g f i j n k = if j ≤ k ∧ k < j + n then g (i + (k - j)) else f k
  | 0, k => by rw [rBring, if_neg (by omega)]
  | n + 1, k => by
    rw [rBring]
    by_cases e : k = j + n
    · rw [e, upd_eq, if_pos (by omega)]; congr 1; omega
    · rw [upd_no _ _ e, rBring_at g f i j n k]
      by_cases h : j ≤ k ∧ k < j + n
      · rw [if_pos h, if_pos (by omega)]
      · rw [if_neg h, if_neg (by omega)]
section KM
variable {d : Nat} {b : Nat × Nat} {Y : xY} {G : xG} {N : xM} {S : xT} {f : Nat → Int32} {Q : Option xAV → xY → xG → xM → Prop} {c : Nat}
theorem kX7_asItIs (hM : xMo Y G) (hQ : ∀ f, ag f (S 13) → Q none Y G (va_up N 40 (va_up S 19 f))) : V RX7 false cX7_asItIs 1 none none (d + 1) b 0 [some (xR 40 0)] [] Y G (va_up N 40 S) Q := by
  refine V_sub 40 19 ?_
  refine V_ald0 dX7_asItIs_0 ?_
  refine V_getR dX7_asItIs_1 flX7_25 (hM.1 0 (0, 7) rfl) (show G 40 0 12 = some (40, 13) from hM.2 12 (1, 67) rfl) ?_
  refine V_iconst (v := nI 0) dX7_asItIs_4 (by decide) ?_
  refine V_ald0 dX7_asItIs_5 ?_
  refine V_getR dX7_asItIs_6 flX7_41 (hM.1 0 (0, 7) rfl) (show G 40 0 18 = some (40, 19) from hM.2 18 (1, 67) rfl) ?_
  refine V_iconst (v := nI 0) dX7_asItIs_9 (by decide) ?_
  refine V_bipush (v := nI 67) dX7_asItIs_10 (by decide) ?_
  refine V_is5 dX7_asItIs_12 wlX7_155 mdX7_bring msX7_bring rfl rfl (kX7_bring (c := 19) (a := 13) (by decide) (hM.1 13 (1, 67) rfl) (hM.1 19 (1, 67) rfl) (by decide) (by decide) (by decide) (by decide) ⟨rfl, ?_⟩)
  refine V_return dX7_asItIs_15 rfl ?_
  exact hQ _ (fun j hj => by rw [rBring_at, if_pos ⟨Nat.zero_le _, by omega⟩]; congr 1; omega)
theorem kX7_goes (hM : xMo Y G) {mb pn : Nat} (hk : rOK (S 0) (S 11) mb pn f) {n : Nat} (hn : n < 2 ^ 31) (hQ : Q none Y G (va_up N 40 (va_up S 19 (rGo (S 0) (S 11) mb n f)))) : V RX7 false cX7_goes 3 none none (d + 3) b 0 [some (xR 40 0), some (xI (nI n)), none] [] Y G (va_up N 40 (va_up S 19 f)) Q := by
  refine V_iconst (v := nI 0) dX7_goes_0 (by decide) ?_
  refine V_ist2 dX7_goes_1 rfl ?_
  refine xDown (P := fun i => ∀ f, rOK (S 0) (S 11) mb pn f → Q none Y G (va_up N 40 (va_up S 19 (rGo (S 0) (S 11) mb (n - i) f))) → V RX7 false cX7_goes 3 none none (d + 3) b 2 [some (xR 40 0), some (xI (nI n)), some (xI (nI i))] [] Y G (va_up N 40 (va_up S 19 f)) Q) n ?_ 0 (Nat.zero_le _) f hk hQ 
  intro i hii hni f hk hq
  refine V_ild2 dX7_goes_2 ?_
  refine V_ild1 dX7_goes_3 ?_
  refine V_icmpgeN (tgt := 21) dX7_goes_4 (by decide) (by omega) (by omega) (fun c4 => ?_) (fun c4 => ?_)
  · skip
    refine V_return dX7_goes_21 rfl ?_
    rw [show n - i = 0 by omega, rGo] at hq
    exact hq
  · skip
    refine V_ald0 dX7_goes_7 ?_
    refine V_ald0 dX7_goes_8 ?_
    refine V_getR dX7_goes_9 flX7_41 (hM.1 0 (0, 7) rfl) (show G 40 0 18 = some (40, 19) from hM.2 18 (1, 67) rfl) ?_
    refine V_iv1 dX7_goes_12 wlX7_181 mdX7_tickOn miX7_tickOn rfl (hM.1 0 (0, 7) rfl) rfl rfl (kX7_tickOn hM (by decide) (by decide) (hM.1 19 (1, 67) rfl) hk.e8 hk.mb hk.safe ⟨rfl, ?_⟩)
    refine V_incN2 dX7_goes_15 rfl ?_
    refine V_goto (tgt := 2) dX7_goes_18 (by decide) ?_
    rw [show n - i = n - (i + 1) + 1 by omega, rGo] at hq
    exact hni (by omega) _ hk.tick hq
theorem kX7_rightOf (hM : xMo Y G) {mb pn : Nat} (hk : rOK (S 0) (S 11) mb pn f) (hQ : Q (some (xI (rThose f (nI 9) (nI 9) mb))) Y G (va_up N 40 (va_up S 19 f))) : V RX7 false cX7_rightOf 1 (some .int) none (d + 2) b 0 [some (xR 40 0)] [] Y G (va_up N 40 (va_up S 19 f)) Q := by
  refine V_ald0 dX7_rightOf_0 ?_
  refine V_ald0 dX7_rightOf_1 ?_
  refine V_getR dX7_rightOf_2 flX7_41 (hM.1 0 (0, 7) rfl) (show G 40 0 18 = some (40, 19) from hM.2 18 (1, 67) rfl) ?_
  refine V_bipush (v := nI 9) dX7_rightOf_5 (by decide) ?_
  refine V_bipush (v := nI 9) dX7_rightOf_7 (by decide) ?_
  refine V_iv3 dX7_rightOf_9 wlX7_185 mdX7_those miX7_those rfl (hM.1 0 (0, 7) rfl) rfl rfl (kX7_those hM (by decide) (hM.1 19 (1, 67) rfl) hk.e8 hk.mb ⟨rfl, ?_⟩)
  refine V_ireturn dX7_rightOf_12 ⟨_, rfl, vp_nar_int _⟩ ?_
  exact hQ
theorem kX7_leftOf (hM : xMo Y G) {mb pn : Nat} (hk : rOK (S 0) (S 11) mb pn f) (hQ : Q (some (xI (rThose f (nI 8) (nI 8) mb))) Y G (va_up N 40 (va_up S 19 f))) : V RX7 false cX7_leftOf 1 (some .int) none (d + 2) b 0 [some (xR 40 0)] [] Y G (va_up N 40 (va_up S 19 f)) Q := by
  refine V_ald0 dX7_leftOf_0 ?_
  refine V_ald0 dX7_leftOf_1 ?_
  refine V_getR dX7_leftOf_2 flX7_41 (hM.1 0 (0, 7) rfl) (show G 40 0 18 = some (40, 19) from hM.2 18 (1, 67) rfl) ?_
  refine V_bipush (v := nI 8) dX7_leftOf_5 (by decide) ?_
  refine V_bipush (v := nI 8) dX7_leftOf_7 (by decide) ?_
  refine V_iv3 dX7_leftOf_9 wlX7_185 mdX7_those miX7_those rfl (hM.1 0 (0, 7) rfl) rfl rfl (kX7_those hM (by decide) (hM.1 19 (1, 67) rfl) hk.e8 hk.mb ⟨rfl, ?_⟩)
  refine V_ireturn dX7_leftOf_12 ⟨_, rfl, vp_nar_int _⟩ ?_
  exact hQ
theorem kX7_tipsNow (hM : xMo Y G) {pn : Nat} (h9 : S 0 9 = nI pn) (hp8 : pn ≤ 8) {s : Int32} (hQ : Q none Y G (va_up N 40 (va_up S 19 (rTipN f s pn)))) : V RX7 false cX7_tipsNow 3 none none d b 0 [some (xR 40 0), some (xI s), none] [] Y G (va_up N 40 (va_up S 19 f)) Q := by
  refine V_iconst (v := nI 0) dX7_tipsNow_0 (by decide) ?_
  refine V_ist2 dX7_tipsNow_1 rfl ?_
  refine xDown (P := fun i => V RX7 false cX7_tipsNow 3 none none d b 2 [some (xR 40 0), some (xI s), some (xI (nI i))] [] Y G (va_up N 40 (va_up S 19 (rTipN f s i))) Q) pn ?_ 0 (Nat.zero_le _)
  intro i hii hni
  refine V_ild2 dX7_tipsNow_2 ?_
  refine V_ald0 dX7_tipsNow_3 ?_
  refine V_getIs dX7_tipsNow_4 flX7_77 (hM.1 0 (0, 7) rfl) (by decide) ?_
  refine V_eqI h9 ?_
  refine V_icmpgeN (tgt := 32) dX7_tipsNow_7 (by decide) (by omega) (by omega) (fun c7 => ?_) (fun c7 => ?_)
  · skip
    refine V_return dX7_tipsNow_32 rfl ?_
    rw [show i = pn by omega]
    exact hQ
  · skip
    refine V_ald0 dX7_tipsNow_10 ?_
    refine V_getR dX7_tipsNow_11 flX7_41 (hM.1 0 (0, 7) rfl) (show G 40 0 18 = some (40, 19) from hM.2 18 (1, 67) rfl) ?_
    refine V_iconst (v := nI 1) dX7_tipsNow_14 (by decide) ?_
    refine V_ild2 dX7_tipsNow_15 ?_
    refine V_iaddN dX7_tipsNow_16 ?_
    refine V_dup2 dX7_tipsNow_17 ?_
    refine V_iac dX7_tipsNow_18 (hM.1 19 (1, 67) rfl) (by omega) (by decide) ?_
    refine V_ild1 dX7_tipsNow_19 ?_
    refine V_ild2 dX7_tipsNow_20 ?_
    refine V_ishr dX7_tipsNow_21 ?_
    refine V_iconst (v := nI 1) dX7_tipsNow_22 (by decide) ?_
    refine V_iand dX7_tipsNow_23 ?_
    refine V_ixor dX7_tipsNow_24 ?_
    refine V_iasc dX7_tipsNow_25 (hM.1 19 (1, 67) rfl) (by omega) (by decide) ?_
    refine V_incN2 dX7_tipsNow_26 rfl ?_
    refine V_goto (tgt := 2) dX7_tipsNow_29 (by decide) ?_
    exact hni (by omega)
theorem kX7_weightOf (hM : xMo Y G) {mb : Nat} (h8 : S 0 8 = nI mb) (hm6 : mb ≤ 6) {s : Int32} (hQ : Q (some (xI (rWt (S 13) s mb))) Y G (va_up N 40 S)) : V RX7 false cX7_weightOf 4 (some .int) none d b 0 [some (xR 40 0), some (xI s), none, none] [] Y G (va_up N 40 S) Q := by
  refine V_iconst (v := nI 0) dX7_weightOf_0 (by decide) ?_
  refine V_ist2 dX7_weightOf_1 rfl ?_
  refine V_iconst (v := nI 0) dX7_weightOf_2 (by decide) ?_
  refine V_ist3 dX7_weightOf_3 rfl ?_
  refine xDown (P := fun i => V RX7 false cX7_weightOf 4 (some .int) none d b 4 [some (xR 40 0), some (xI s), some (xI (rWt (S 13) s i)), some (xI (nI i))] [] Y G (va_up N 40 S) Q) mb ?_ 0 (Nat.zero_le _)
  intro i hii hni
  refine V_ild3 dX7_weightOf_4 ?_
  refine V_ald0 dX7_weightOf_5 ?_
  refine V_getIr dX7_weightOf_6 flX7_74 (hM.1 0 (0, 7) rfl) ?_
  refine V_eqI h8 ?_
  refine V_icmpgeN (tgt := 36) dX7_weightOf_9 (by decide) (by omega) (by omega) (fun c9 => ?_) (fun c9 => ?_)
  · skip
    rw [show i = mb by omega]
    refine V_ild2 dX7_weightOf_36 ?_
    refine V_ireturn dX7_weightOf_37 ⟨_, rfl, vp_nar_int _⟩ ?_
    exact hQ
  · skip
    refine V_ild2 dX7_weightOf_12 ?_
    refine V_ild1 dX7_weightOf_13 ?_
    refine V_ild3 dX7_weightOf_14 ?_
    refine V_ishr dX7_weightOf_15 ?_
    refine V_iconst (v := nI 1) dX7_weightOf_16 (by decide) ?_
    refine V_iand dX7_weightOf_17 ?_
    refine V_ald0 dX7_weightOf_18 ?_
    refine V_getR dX7_weightOf_19 flX7_25 (hM.1 0 (0, 7) rfl) (show G 40 0 12 = some (40, 13) from hM.2 12 (1, 67) rfl) ?_
    refine V_bipush (v := nI 55) dX7_weightOf_22 (by decide) ?_
    refine V_ild3 dX7_weightOf_24 ?_
    refine V_iaddN dX7_weightOf_25 ?_
    refine V_iar dX7_weightOf_26 (hM.1 13 (1, 67) rfl) (by omega) (by decide) ?_
    refine V_imul dX7_weightOf_27 ?_
    refine V_iadd dX7_weightOf_28 ?_
    refine V_ist2 dX7_weightOf_29 rfl ?_
    refine V_incN3 dX7_weightOf_30 rfl ?_
    refine V_goto (tgt := 4) dX7_weightOf_33 (by decide) ?_
    exact hni (by omega)
theorem kX7_wentOfAll (hM : xMo Y G) {pn : Nat} (h9 : S 0 9 = nI pn) (hp8 : pn ≤ 8) (hQ : Q (some (xI (rWentA (S 13) pn))) Y G (va_up N 40 S)) : V RX7 false cX7_wentOfAll 3 (some .int) none d b 0 [some (xR 40 0), none, none] [] Y G (va_up N 40 S) Q := by
  refine V_iconst (v := nI 0) dX7_wentOfAll_0 (by decide) ?_
  refine V_ist1 dX7_wentOfAll_1 rfl ?_
  refine V_iconst (v := nI 0) dX7_wentOfAll_2 (by decide) ?_
  refine V_ist2 dX7_wentOfAll_3 rfl ?_
  refine xDown (P := fun i => V RX7 false cX7_wentOfAll 3 (some .int) none d b 4 [some (xR 40 0), some (xI (rWentA (S 13) i)), some (xI (nI i))] [] Y G (va_up N 40 S) Q) pn ?_ 0 (Nat.zero_le _)
  intro i hii hni
  refine V_ild2 dX7_wentOfAll_4 ?_
  refine V_ald0 dX7_wentOfAll_5 ?_
  refine V_getIr dX7_wentOfAll_6 flX7_77 (hM.1 0 (0, 7) rfl) ?_
  refine V_eqI h9 ?_
  refine V_icmpgeN (tgt := 30) dX7_wentOfAll_9 (by decide) (by omega) (by omega) (fun c9 => ?_) (fun c9 => ?_)
  · skip
    rw [show i = pn by omega]
    refine V_ild1 dX7_wentOfAll_30 ?_
    refine V_ireturn dX7_wentOfAll_31 ⟨_, rfl, vp_nar_int _⟩ ?_
    exact hQ
  · skip
    refine V_ild1 dX7_wentOfAll_12 ?_
    refine V_ald0 dX7_wentOfAll_13 ?_
    refine V_getR dX7_wentOfAll_14 flX7_25 (hM.1 0 (0, 7) rfl) (show G 40 0 12 = some (40, 13) from hM.2 12 (1, 67) rfl) ?_
    refine V_bipush (v := nI 33) dX7_wentOfAll_17 (by decide) ?_
    refine V_ild2 dX7_wentOfAll_19 ?_
    refine V_iaddN dX7_wentOfAll_20 ?_
    refine V_iar dX7_wentOfAll_21 (hM.1 13 (1, 67) rfl) (by omega) (by decide) ?_
    refine V_iadd dX7_wentOfAll_22 ?_
    refine V_ist1 dX7_wentOfAll_23 rfl ?_
    refine V_incN2 dX7_wentOfAll_24 rfl ?_
    refine V_goto (tgt := 4) dX7_wentOfAll_27 (by decide) ?_
    exact hni (by omega)
theorem kX7_rowsThere (hM : xMo Y G) (hQ : Q (some (xI (rRows (S 2) 8))) Y G (va_up N 40 S)) : V RX7 false cX7_rowsThere 3 (some .int) none d b 0 [some (xR 40 0), none, none] [] Y G (va_up N 40 S) Q := by
  refine V_iconst (v := nI 0) dX7_rowsThere_0 (by decide) ?_
  refine V_ist1 dX7_rowsThere_1 rfl ?_
  refine V_iconst (v := nI 0) dX7_rowsThere_2 (by decide) ?_
  refine V_ist2 dX7_rowsThere_3 rfl ?_
  refine xDown (P := fun i => V RX7 false cX7_rowsThere 3 (some .int) none d b 4 [some (xR 40 0), some (xI (rRows (S 2) i)), some (xI (nI i))] [] Y G (va_up N 40 S) Q) 8 ?_ 0 (Nat.zero_le _)
  intro i hii hni
  refine V_ild2 dX7_rowsThere_4 ?_
  refine V_bipush (v := nI 8) dX7_rowsThere_5 (by decide) ?_
  refine V_icmpgeN (tgt := 33) dX7_rowsThere_7 (by decide) (by omega) (by omega) (fun c7 => ?_) (fun c7 => ?_)
  · skip
    rw [show i = 8 by omega]
    refine V_ild1 dX7_rowsThere_33 ?_
    refine V_ireturn dX7_rowsThere_34 ⟨_, rfl, vp_nar_int _⟩ ?_
    exact hQ
  · skip
    refine V_ild1 dX7_rowsThere_10 ?_
    refine V_ald0 dX7_rowsThere_11 ?_
    refine V_getR dX7_rowsThere_12 flX7_13 (hM.1 0 (0, 7) rfl) (show G 40 0 1 = some (40, 2) from hM.2 1 (1, 8) rfl) ?_
    refine V_ild2 dX7_rowsThere_15 ?_
    refine V_iar dX7_rowsThere_16 (hM.1 2 (1, 8) rfl) (by omega) (by decide) ?_
    refine V_ifge (tgt := 24) dX7_rowsThere_17 (by decide) (fun c17 => ?_) (fun c17 => ?_)
    · replace c17 : ¬ S 2 i < 0 := Int32.not_lt.mpr c17
      refine V_iconst (v := nI 1) dX7_rowsThere_24 (by decide) ?_
      refine V_iadd dX7_rowsThere_25 ?_
      refine V_ist1 dX7_rowsThere_26 rfl ?_
      refine V_incN2 dX7_rowsThere_27 rfl ?_
      refine V_goto (tgt := 4) dX7_rowsThere_30 (by decide) ?_
      have hni := hni (by omega)
      rw [rRows, if_neg c17] at hni
      exact hni
    · skip
      refine V_iconst (v := nI 0) dX7_rowsThere_20 (by decide) ?_
      refine V_goto (tgt := 25) dX7_rowsThere_21 (by decide) ?_
      refine V_iadd dX7_rowsThere_25 ?_
      refine V_ist1 dX7_rowsThere_26 rfl ?_
      refine V_incN2 dX7_rowsThere_27 rfl ?_
      refine V_goto (tgt := 4) dX7_rowsThere_30 (by decide) ?_
      have hni := hni (by omega)
      rw [rRows, if_pos (Int32.not_le.mp c17)] at hni
      exact hni
theorem kX7_byNumbers (hM : xMo Y G) (hQ : ∀ g, (∀ j, j < 6 → g j = nI j) → Q none Y G (va_up N 40 (va_up S 18 g))) : V RX7 false cX7_byNumbers 2 none none d b 0 [some (xR 40 0), none] [] Y G (va_up N 40 S) Q := by
  refine V_sub 40 18 ?_
  refine V_iconst (v := nI 0) dX7_byNumbers_0 (by decide) ?_
  refine V_ist1 dX7_byNumbers_1 rfl ?_
  refine xDown (P := fun i => ∀ g, (∀ j, j < i → g j = nI j) → V RX7 false cX7_byNumbers 2 none none d b 2 [some (xR 40 0), some (xI (nI i))] [] Y G (va_up N 40 (va_up S 18 g)) Q) 6 ?_ 0 (Nat.zero_le _) _ (fun j hj => absurd hj (by omega)) 
  intro i hii hni g hg
  refine V_ild1 dX7_byNumbers_2 ?_
  refine V_bipush (v := nI 6) dX7_byNumbers_3 (by decide) ?_
  refine V_icmpgeN (tgt := 21) dX7_byNumbers_5 (by decide) (by omega) (by omega) (fun c5 => ?_) (fun c5 => ?_)
  · skip
    refine V_return dX7_byNumbers_21 rfl ?_
    exact hQ _ (fun j hj => hg j (by omega))
  · skip
    refine V_ald0 dX7_byNumbers_8 ?_
    refine V_getR dX7_byNumbers_9 flX7_38 (hM.1 0 (0, 7) rfl) (show G 40 0 17 = some (40, 18) from hM.2 17 (1, 6) rfl) ?_
    refine V_ild1 dX7_byNumbers_12 ?_
    refine V_ild1 dX7_byNumbers_13 ?_
    refine V_iasc dX7_byNumbers_14 (hM.1 18 (1, 6) rfl) (by omega) (by decide) ?_
    refine V_incN1 dX7_byNumbers_15 rfl ?_
    refine V_goto (tgt := 2) dX7_byNumbers_18 (by decide) ?_
    exact hni (by omega) _ (fun j hj => by
      by_cases e : j = i
      · rw [e, upd_eq]
      · rw [upd_no _ _ e]; exact hg j (by omega))
end KM
