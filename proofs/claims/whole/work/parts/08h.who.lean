def oEq (o' o : Nat → Int32) : Prop := o' 7 = o 7 ∧ o' 8 = o 8 ∧ o' 9 = o 9 ∧ o' 11 = o 11
theorem Sim.oeq {mb pn : Nat} {T : xT} {o o' so f : Nat → Int32} (h : Sim mb pn T o so f) (e : oEq o' o) : Sim mb pn T o' so f := by
  obtain ⟨⟨a1, a2, a3, a4, a5, a6, a7⟩, b⟩ := h
  exact ⟨⟨a1.trans e.1.symm, a2, e.2.1.trans a3, a4, e.2.2.1.trans a5, a6.trans e.2.2.2.symm, a7⟩, b⟩
theorem Sim.sort {mb pn : Nat} {T : xT} {o so f : Nat → Int32} (h : Sim mb pn T o so f) (p : Nat) (v : Int32) : Sim mb pn (tPut T 9 p v) o (upd so p v) f := by
  obtain ⟨⟨a1, a2, a3, a4, a5, a6, a7, a8, a9⟩, b⟩ := h
  refine ⟨⟨a1, a2, a3, a4, a5, a6, ?_, ?_, ?_⟩, b⟩
  · intro q hq
    show va_up T 9 (upd (T 9) p v) 9 q = _
    rw [va_up_eq]
    by_cases e : q = p
    · rw [e, upd_eq, upd_eq]
    · rw [upd_no _ _ e, upd_no _ _ e]; exact a7 q hq
  · intro c hc j hj
    show va_up T 9 (upd (T 9) p v) c j = _
    rw [va_up_no _ _ (bs_pos (Or.inl hc)).2.1]; exact a8 c hc j hj
  · intro c hc j hj
    show va_up T 9 (upd (T 9) p v) c j = _
    rw [va_up_no _ _ (bs_pos (Or.inr hc)).2.1]; exact a9 c hc j hj
theorem Sim.bar {mb pn : Nat} {T : xT} {o so f : Nat → Int32} (h : Sim mb pn T o so f) (v : Int32) : Sim mb pn (tPut T 0 0 v) (upd o 7 v) so f := by
  obtain ⟨⟨a1, a2, a3, a4, a5, a6, a7, a8, a9⟩, b⟩ := h
  refine ⟨⟨rfl, a2, a3, a4, a5, a6, a7, ?_, ?_⟩, b⟩
  · intro c hc j hj
    show va_up T 0 (upd (T 0) 0 v) c j = _
    rw [va_up_no _ _ (bs_pos (Or.inl hc)).1]; exact a8 c hc j hj
  · intro c hc j hj
    show va_up T 0 (upd (T 0) 0 v) c j = _
    rw [va_up_no _ _ (bs_pos (Or.inr hc)).1]; exact a9 c hc j hj
theorem Sim.jam {mb pn : Nat} {T : xT} {o so f : Nat → Int32} (h : Sim mb pn T o so f) (v : Int32) : Sim mb pn (tPut T 0 4 v) (upd o 11 v) so f := by
  obtain ⟨⟨a1, a2, a3, a4, a5, a6, a7, a8, a9⟩, b⟩ := h
  refine ⟨⟨a1, a2, a3, a4, a5, rfl, a7, ?_, ?_⟩, b⟩
  · intro c hc j hj
    show va_up T 0 (upd (T 0) 4 v) c j = _
    rw [va_up_no _ _ (bs_pos (Or.inl hc)).1]; exact a8 c hc j hj
  · intro c hc j hj
    show va_up T 0 (upd (T 0) 4 v) c j = _
    rw [va_up_no _ _ (bs_pos (Or.inr hc)).1]; exact a9 c hc j hj
theorem rOK.oeq {o o' so : Nat → Int32} {mb pn : Nat} {f : Nat → Int32} (h : rOK o so mb pn f) (e : oEq o' o) : rOK o' so mb pn f := h.elim fun T hT => ⟨T, hT.1, hT.2.oeq e⟩
theorem rOK.sort {o so : Nat → Int32} {mb pn : Nat} {f : Nat → Int32} (h : rOK o so mb pn f) (p : Nat) (v : Int32) : rOK o (upd so p v) mb pn f := h.elim fun _ hT => ⟨_, hT.1.c9 p v, hT.2.sort p v⟩
theorem rOK.bar {o so : Nat → Int32} {mb pn : Nat} {f : Nat → Int32} (h : rOK o so mb pn f) (v : Int32) : rOK (upd o 7 v) so mb pn f := h.elim fun _ hT => ⟨_, hT.1.bar (by decide) (by decide) v, hT.2.bar v⟩
theorem rOK.jam {o so : Nat → Int32} {mb pn : Nat} {f : Nat → Int32} (h : rOK o so mb pn f) (v : Int32) : rOK (upd o 11 v) so mb pn f := h.elim fun _ hT => ⟨_, hT.1.bar (by decide) (by decide) v, hT.2.jam v⟩
theorem upd_upd2 (f : Nat → Int32) (k : Nat) (x y : Int32) : upd (upd f k x) k y = upd f k y := by
  funext j
  by_cases e : j = k
  · rw [e, upd_eq, upd_eq]
  · rw [upd_no _ _ e, upd_no _ _ e, upd_no _ _ e]
theorem oEq.fnd (o : Nat → Int32) (v : Int32) : oEq (upd o 3 v) o := ⟨rfl, rfl, rfl, rfl⟩
/-- what a look at a part of a row finds -/
def fnd (g : Nat → Int32) (r i n : Int32) : Int32 := if g r.toNatClampNeg < 0 then nI 1 else if rPart i n (g r.toNatClampNeg) then 0 else nI 2
def szOK (g : Nat → Int32) : Prop := ∀ r, r < 8 → g r = -1 ∨ ∃ k, k ≤ 40 ∧ g r = nI k
theorem part_nat {g : Nat → Int32} (hs : szOK g) {r : Nat} (hr : r < 8) {i : Int32} {n : Nat} (hn : n < 2 ^ 20) (h0 : ¬ g r < 0) (h : rPart i (nI n) (g r)) : ∃ j, i = nI j ∧ j + n ≤ 40 ∧ g r = nI (g r).toNatClampNeg ∧ j + n ≤ (g r).toNatClampNeg := by
  rcases hs r hr with e | ⟨k, hk, e⟩
  · rw [e] at h0; exact absurd (by decide) h0
  · obtain ⟨h1, _, h2, h3⟩ := h
    rw [e] at h2 h3
    have hnk : n ≤ k := Nat.le_of_not_lt fun q => h2 (nI_lt q (by omega))
    rw [pk_sub hnk] at h3
    rcases pk_ix i (n := k - n + 1) (by omega) with q | q | ⟨j, q1, q2⟩
    · exact absurd q h1
    · exact absurd (Int32.lt_of_lt_of_le (nI_lt (Nat.lt_succ_self _) (by omega)) q) h3
    · exact ⟨j, q2, by omega, by rw [e, nI_clamp (by omega)], by rw [e, nI_clamp (by omega)]; omega⟩
section KM
variable {d : Nat} {b : Nat × Nat} {Y : xY} {G : xG} {N : xM} {S : xT} {f : Nat → Int32} {Q : Option xAV → xY → xG → xM → Prop} {c : Nat}
theorem V_cc {own : String} {ini : Bool} {cc : ByteArray} {nL : Nat} {ret : Option FieldType} {X : Option (Nat × (Nat → Int32))} {pc : Nat} {loc : List (Option xAV)} {st : List xAV} {r : Nat} {a e : Nat} (hae : e ≠ a) {g : Nat → Int32} (h : V own ini cc nL ret X d b pc loc st Y G (va_up N r (va_up (va_up S e g) a f)) Q) : V own ini cc nL ret X d b pc loc st Y G (va_up N r (va_up (va_up S a f) e g)) Q := by
  rw [va_comm _ hae.symm]; exact h
theorem kX7_who (hM : xMo Y G) {mb pn : Nat} (hr : rSt S mb pn) (hsz : szOK (S 2)) {a y w x z v : Int32} {pv : Nat → Bool} (hv0 : ∀ p r j n, a = nI p → p < pn → w = nI r → r < 8 → x = nI j → j + n ≤ 40 → z = nI n → y = 0 → ∀ k, 1 ≤ k → k ≤ 5 → ∀ o so f, oEq o (S 0) → (∀ q, so q = upd (S 11) p (nI k) q) → ag f (S 13) → ∀ it, it = S 3 → rSo o so mb it n (40 * r + j) f true = pv k) (hv1 : ∀ p r j n, a = nI p → p < pn → w = nI r → r < 8 → x = nI j → j + n ≤ 40 → z = nI n → ¬ y = 0 → ∀ k, k ≤ 1 → ∀ o so f, oEq o (S 0) → (∀ q, so q = S 11 q) → ag f (S 13) → ∀ it, it = S 3 → rSo o so mb it n (40 * r + j) (upd f (1 + p) (nI k)) true = pv k) (hw : (y = 0 → v = fitS pv 1 5) ∧ (¬ y = 0 → v = fitS pv 0 2)) (hQ : ∀ S2, rKeep (if rIn a (nI 0) (nI pn - nI 1) ∧ rIn y (nI 0) (nI 1) ∧ rIn w (nI 0) (nI 7) ∧ rIn z (nI 1) (nI 12) then rFound S (fnd (S 2) w x z) else S) S2 → Q (some (xI (if rIn a (nI 0) (nI pn - nI 1) ∧ rIn y (nI 0) (nI 1) ∧ rIn w (nI 0) (nI 7) ∧ rIn z (nI 1) (nI 12) then (if fnd (S 2) w x z = 0 then v else -1000010 - fnd (S 2) w x z) else -1000001))) Y G (va_up N 40 S2)) : V RX7 false cX7_who 10 (some .int) none (d + 5) b 0 [some (xR 40 0), some (xI a), some (xI y), some (xI w), some (xI x), some (xI z), none, none, none, none] [] Y G (va_up N 40 S) Q := by
  refine V_ald0 dX7_who_0 ?_
  refine V_ild1 dX7_who_1 ?_
  refine V_iv1 dX7_who_2 wlX7_189 mdX7_isPiece miX7_isPiece rfl (hM.1 0 (0, 7) rfl) rfl rfl (kX7_isPiece hM ⟨rfl, ?_⟩)
  rw [hr.2.1]
  refine V_ifeqB (tgt := 36) dX7_who_5 (by decide) (fun c5 => ?_) (fun c5 => ?_)
  · skip
    refine V_ldc dX7_who_36 wkX7_84 ?_
    refine V_ireturn dX7_who_38 ⟨_, rfl, vp_nar_int _⟩ ?_
    have hq := hQ S (by rw [if_neg (fun h => c5 h.1)]; exact rKeep.rf S)
    rw [if_neg (fun h => c5 h.1)] at hq
    exact hq
  · skip
    refine V_ild2 dX7_who_8 ?_
    refine V_iconst (v := nI 0) dX7_who_9 (by decide) ?_
    refine V_iconst (v := nI 1) dX7_who_10 (by decide) ?_
    refine V_is3 dX7_who_11 wlX7_70 mdX7_in msX7_in rfl rfl (kX7_in ⟨rfl, ?_⟩)
    refine V_ifeqB (tgt := 36) dX7_who_14 (by decide) (fun c14 => ?_) (fun c14 => ?_)
    · skip
      refine V_ldc dX7_who_36 wkX7_84 ?_
      refine V_ireturn dX7_who_38 ⟨_, rfl, vp_nar_int _⟩ ?_
      have hq := hQ S (by rw [if_neg (fun h => c14 h.2.1)]; exact rKeep.rf S)
      rw [if_neg (fun h => c14 h.2.1)] at hq
      exact hq
    · skip
      refine V_ald0 dX7_who_17 ?_
      refine V_ild3 dX7_who_18 ?_
      refine V_iv1 dX7_who_19 wlX7_80 mdX7_isRow miX7_isRow rfl (hM.1 0 (0, 7) rfl) rfl rfl (kX7_isRow ⟨rfl, ?_⟩)
      refine V_ifeqB (tgt := 36) dX7_who_22 (by decide) (fun c22 => ?_) (fun c22 => ?_)
      · skip
        refine V_ldc dX7_who_36 wkX7_84 ?_
        refine V_ireturn dX7_who_38 ⟨_, rfl, vp_nar_int _⟩ ?_
        have hq := hQ S (by rw [if_neg (fun h => c22 h.2.2.1)]; exact rKeep.rf S)
        rw [if_neg (fun h => c22 h.2.2.1)] at hq
        exact hq
      · skip
        refine V_ild5 dX7_who_25 ?_
        refine V_iconst (v := nI 1) dX7_who_27 (by decide) ?_
        refine V_bipush (v := nI 12) dX7_who_28 (by decide) ?_
        refine V_is3 dX7_who_30 wlX7_70 mdX7_in msX7_in rfl rfl (kX7_in ⟨rfl, ?_⟩)
        refine V_ifneB (tgt := 39) dX7_who_33 (by decide) (fun c33 => ?_) (fun c33 => ?_)
        · skip
          rw [if_pos ⟨c5, c14, c22, c33⟩, if_pos ⟨c5, c14, c22, c33⟩] at hQ
          obtain ⟨p, hp, rfl⟩ := rIn_m c5 (by have := hr.b6; omega)
          obtain ⟨r, hr0, hr8, rfl⟩ := rIn_k c22 (by decide) (by decide)
          obtain ⟨n, hn0, hn1, rfl⟩ := rIn_k c33 (by decide) (by decide)
          have hk := hr.okp hp
          have hmb := hk.mb
          have hpn := hk.pn
          unfold fnd at hQ
          rw [nI_clamp (by omega)] at hQ
          refine V_ald0 dX7_who_39 ?_
          refine V_ild3 dX7_who_40 ?_
          refine V_ild4 dX7_who_41 ?_
          refine V_ild5 dX7_who_43 ?_
          refine V_iv3 dX7_who_45 wlX7_233 mdX7_refuses miX7_refuses rfl (hM.1 0 (0, 7) rfl) rfl rfl (kX7_refuses hM (by omega) (fun q1 => ⟨rfl, ?_⟩) (fun q1 q2 => ⟨rfl, ?_⟩) (fun q1 q2 => ⟨rfl, ?_⟩))
          · skip
            rw [if_pos q1] at hQ
            refine V_ist6 dX7_who_48 rfl ?_
            refine V_ild6 dX7_who_50 ?_
            refine V_ifeq (tgt := 58) dX7_who_52 (by decide) (fun c52 => ?_) (fun c52 => ?_)
            · exact absurd c52 (by decide)
            · skip
              refine V_ild6 dX7_who_55 ?_
              refine V_ireturn dX7_who_57 ⟨_, rfl, vp_nar_int _⟩ ?_
              rw [if_neg (by decide)] at hQ
              exact hQ _ (rKeep.rf _)
          · skip
            rw [if_neg q1, if_neg q2] at hQ
            refine V_ist6 dX7_who_48 rfl ?_
            refine V_ild6 dX7_who_50 ?_
            refine V_ifeq (tgt := 58) dX7_who_52 (by decide) (fun c52 => ?_) (fun c52 => ?_)
            · exact absurd c52 (by decide)
            · skip
              refine V_ild6 dX7_who_55 ?_
              refine V_ireturn dX7_who_57 ⟨_, rfl, vp_nar_int _⟩ ?_
              rw [if_neg (by decide)] at hQ
              exact hQ _ (rKeep.rf _)
          · skip
            rw [if_neg q1, if_pos q2, if_pos rfl] at hQ
            obtain ⟨jj, rfl, hjn, hge, hjg⟩ := part_nat hsz (by omega) (by omega) q1 q2
            refine V_ist6 dX7_who_48 rfl ?_
            refine V_ild6 dX7_who_50 ?_
            refine V_ifeq (tgt := 58) dX7_who_52 (by decide) (fun _ => ?_) (fun c52 => absurd rfl c52)
            obtain ⟨S1, hS1⟩ : ∃ S1, S1 = rFound S 0 := ⟨_, rfl⟩
            rw [← hS1] at hQ ⊢
            have b0 : oEq (S1 0) (S 0) := by rw [hS1]; exact oEq.fnd _ _
            have b11 : S1 11 = S 11 := by rw [hS1]; rfl
            have b13 : S1 13 = S 13 := by rw [hS1]; rfl
            have b3 : S1 3 = S 3 := by rw [hS1]; rfl
            have hk1 : rOK (S1 0) (S1 11) mb pn (S1 13) := by rw [b11, b13]; exact hk.oeq b0
            refine V_ald0 dX7_who_58 ?_
            refine V_getR dX7_who_59 flX7_22 (hM.1 0 (0, 7) rfl) (show G 40 0 10 = some (40, 11) from hM.2 10 (1, 8) rfl) ?_
            refine V_ild1 dX7_who_62 ?_
            refine V_iar dX7_who_63 (hM.1 11 (1, 8) rfl) (by omega) (by decide) ?_
            refine V_ist7 dX7_who_64 rfl ?_
            refine V_iconst (v := nI 0) dX7_who_66 (by decide) ?_
            refine V_ist8 dX7_who_67 rfl ?_
            refine V_ild2 dX7_who_69 ?_
            refine V_ifne (tgt := 77) dX7_who_70 (by decide) (fun cw => ?_) (fun cw => ?_)
            · skip
              refine V_iconst (v := nI 0) dX7_who_77 (by decide) ?_
              refine V_ist9 dX7_who_78 rfl ?_
              refine xDown (P := fun i => ∀ S2, S2 0 = S1 0 → S2 11 = S1 11 → (∀ c, c ≠ 11 → c ≠ 19 → S2 c = S1 c) → V RX7 false cX7_who 10 (some .int) none (d + 5) b 80 [some (xR 40 0), some (xI (nI p)), some (xI y), some (xI (nI r)), some (xI (nI jj)), some (xI (nI n)), some (xI 0), some (xI (S1 11 p)), some (xI (fitS pv 0 i)), some (xI (nI (0 + i)))] [] Y G (va_up N 40 S2) Q) 2 ?_ 0 (Nat.zero_le _) S1 rfl rfl (fun _ _ _ => rfl)
              intro i hii hni S2 e0 e11 ec
              refine V_ild9 dX7_who_80 ?_
              refine V_ild2 dX7_who_82 ?_
              refine V_ifne (tgt := 90) dX7_who_83 (by decide) (fun c83 => ?_) (fun c83 => ?_)
              · skip
                refine V_iconst (v := nI 1) dX7_who_90 (by decide) ?_
                refine V_icmpgtN (tgt := 158) dX7_who_91 (by decide) (by omega) (by omega) (fun c91 => ?_) (fun c91 => ?_)
                · skip
                  refine V_ald0 dX7_who_158 ?_
                  refine V_getR dX7_who_159 flX7_22 (hM.1 0 (0, 7) rfl) (show G 40 0 10 = some (40, 11) from hM.2 10 (1, 8) rfl) ?_
                  refine V_ild1 dX7_who_162 ?_
                  refine V_ild7 dX7_who_163 ?_
                  refine V_iasr dX7_who_165 (hM.1 11 (1, 8) rfl) (by omega) (by decide) ?_
                  refine V_ild8 dX7_who_166 ?_
                  refine V_ireturn dX7_who_168 ⟨_, rfl, vp_nar_int _⟩ ?_
                  have hq := hQ (va_up S2 11 (upd (S2 11) p (S1 11 p))) ⟨fun c a1 a2 a3 a4 a5 a6 a7 a8 => by
                    by_cases e : c = 11
                    · rw [e, va_up_eq, e11, upd_me]
                    · rw [va_up_no _ _ e]; exact ec c e a3, fun k hk => by rw [va_up_no _ _ (by decide), e0]⟩
                  rw [hw.2 cw] at hq
                  rw [show i = 2 by omega]
                  exact hq
                · skip
                  have hk2 : rOK (S2 0) (S2 11) mb pn (S2 13) := by rw [e0, e11, ec 13 (by decide) (by decide)]; exact hk1
                  refine V_ald0 dX7_who_94 ?_
                  refine V_iv0 dX7_who_95 wlX7_202 mdX7_asItIs miX7_asItIs rfl (hM.1 0 (0, 7) rfl) rfl rfl (kX7_asItIs hM (fun f hf => ⟨rfl, ?_⟩))
                  refine V_ild2 dX7_who_98 ?_
                  refine V_ifne (tgt := 113) dX7_who_99 (by decide) (fun c99 => ?_) (fun c99 => ?_)
                  · skip
                    refine V_ald0 dX7_who_113 ?_
                    refine V_getR dX7_who_114 flX7_41 (hM.1 0 (0, 7) rfl) (show G 40 0 18 = some (40, 19) from hM.2 18 (1, 67) rfl) ?_
                    refine V_iconst (v := nI 1) dX7_who_117 (by decide) ?_
                    refine V_ild1 dX7_who_118 ?_
                    refine V_iaddN dX7_who_119 ?_
                    refine V_ild9 dX7_who_120 ?_
                    refine V_iasr dX7_who_122 (hM.1 19 (1, 67) rfl) (by omega) (by decide) ?_
                    refine V_uu ?_
                    refine V_ild8 dX7_who_123 ?_
                    refine V_ald0 dX7_who_125 ?_
                    refine V_bipush (v := nI 40) dX7_who_126 (by decide) ?_
                    refine V_ild3 dX7_who_128 ?_
                    refine V_imulN dX7_who_129 ?_
                    refine V_ild4 dX7_who_130 ?_
                    refine V_iaddN dX7_who_132 ?_
                    refine V_ild5 dX7_who_133 ?_
                    refine V_iv2 dX7_who_135 wlX7_237 mdX7_isSo miX7_isSo rfl (hM.1 0 (0, 7) rfl) rfl rfl (kX7_isSo hM (rOK.pt (hk2.ag hf) (p := p) (v := 0 + i) (by omega) (by omega)) (a := 40 * r + jj) (n := n) (by omega) (fun f2 => ⟨rfl, ?_⟩))
                    rw [show rSo _ _ mb _ n (40 * r + jj) _ true = pv (0 + i) from hv1 p r jj n rfl hp rfl (by omega) rfl hjn rfl cw (0 + i) (by omega) _ _ f (by rw [e0]; exact b0) (fun q => by rw [e11, b11]) (fun j hj => (hf j hj).trans (by rw [ec 13 (by decide) (by decide), b13])) _ (by rw [ec 3 (by decide) (by decide)]; exact b3)]
                    refine V_ifeqB (tgt := 148) dX7_who_138 (by decide) (fun c138 => ?_) (fun c138 => ?_)
                    · skip
                      refine V_iconst (v := nI 0) dX7_who_148 (by decide) ?_
                      refine V_ior dX7_who_149 ?_
                      refine V_ist8 dX7_who_150 rfl ?_
                      refine V_incN9 dX7_who_152 rfl ?_
                      refine V_goto (tgt := 80) dX7_who_155 (by decide) ?_
                      have hq := fun S4 => hni (by omega) S4
                      rw [fitS, if_neg c138] at hq
                      exact hq _ (by rw [va_up_no _ _ (by decide)]; exact e0) (by rw [va_up_no _ _ (by decide)]; exact e11) (fun c h1 h2 => by rw [va_up_no _ _ h2]; exact ec c h1 h2)
                    · skip
                      refine V_iconst (v := nI 1) dX7_who_141 (by decide) ?_
                      refine V_ild9 dX7_who_142 ?_
                      refine V_ishl dX7_who_144 ?_
                      refine V_goto (tgt := 149) dX7_who_145 (by decide) ?_
                      refine V_ior dX7_who_149 ?_
                      refine V_ist8 dX7_who_150 rfl ?_
                      refine V_incN9 dX7_who_152 rfl ?_
                      refine V_goto (tgt := 80) dX7_who_155 (by decide) ?_
                      have hq := fun S4 => hni (by omega) S4
                      rw [fitS, if_pos c138] at hq
                      exact hq _ (by rw [va_up_no _ _ (by decide)]; exact e0) (by rw [va_up_no _ _ (by decide)]; exact e11) (fun c h1 h2 => by rw [va_up_no _ _ h2]; exact ec c h1 h2)
                  · exact absurd c99 cw
              · exact absurd c83 cw
            · skip
              refine V_iconst (v := nI 1) dX7_who_73 (by decide) ?_
              refine V_goto (tgt := 78) dX7_who_74 (by decide) ?_
              refine V_ist9 dX7_who_78 rfl ?_
              refine xDown (P := fun i => ∀ S2, S2 0 = S1 0 → (∃ x, S2 11 = upd (S1 11) p x) → (∀ c, c ≠ 11 → c ≠ 19 → S2 c = S1 c) → V RX7 false cX7_who 10 (some .int) none (d + 5) b 80 [some (xR 40 0), some (xI (nI p)), some (xI y), some (xI (nI r)), some (xI (nI jj)), some (xI (nI n)), some (xI 0), some (xI (S1 11 p)), some (xI (fitS pv 1 i)), some (xI (nI (1 + i)))] [] Y G (va_up N 40 S2) Q) 5 ?_ 0 (Nat.zero_le _) S1 rfl ⟨_, (upd_me _ _).symm⟩ (fun _ _ _ => rfl)
              intro i hii hni S2 e0 e11 ec
              obtain ⟨x, e11⟩ := e11
              refine V_ild9 dX7_who_80 ?_
              refine V_ild2 dX7_who_82 ?_
              refine V_ifne (tgt := 90) dX7_who_83 (by decide) (fun c83 => ?_) (fun c83 => ?_)
              · exact absurd cw c83
              · skip
                refine V_iconst (v := nI 5) dX7_who_86 (by decide) ?_
                refine V_goto (tgt := 91) dX7_who_87 (by decide) ?_
                refine V_icmpgtN (tgt := 158) dX7_who_91 (by decide) (by omega) (by omega) (fun c91 => ?_) (fun c91 => ?_)
                · skip
                  refine V_ald0 dX7_who_158 ?_
                  refine V_getR dX7_who_159 flX7_22 (hM.1 0 (0, 7) rfl) (show G 40 0 10 = some (40, 11) from hM.2 10 (1, 8) rfl) ?_
                  refine V_ild1 dX7_who_162 ?_
                  refine V_ild7 dX7_who_163 ?_
                  refine V_iasr dX7_who_165 (hM.1 11 (1, 8) rfl) (by omega) (by decide) ?_
                  refine V_ild8 dX7_who_166 ?_
                  refine V_ireturn dX7_who_168 ⟨_, rfl, vp_nar_int _⟩ ?_
                  have hq := hQ (va_up S2 11 (upd (S2 11) p (S1 11 p))) ⟨fun c a1 a2 a3 a4 a5 a6 a7 a8 => by
                    by_cases e : c = 11
                    · rw [e, va_up_eq, e11, upd_upd2, upd_me]
                    · rw [va_up_no _ _ e]; exact ec c e a3, fun k hk => by rw [va_up_no _ _ (by decide), e0]⟩
                  rw [hw.1 cw] at hq
                  rw [show i = 5 by omega]
                  exact hq
                · skip
                  have hk2 : rOK (S2 0) (S2 11) mb pn (S2 13) := by rw [e0, e11, ec 13 (by decide) (by decide)]; exact hk1.sort p x
                  refine V_ald0 dX7_who_94 ?_
                  refine V_iv0 dX7_who_95 wlX7_202 mdX7_asItIs miX7_asItIs rfl (hM.1 0 (0, 7) rfl) rfl rfl (kX7_asItIs hM (fun f hf => ⟨rfl, ?_⟩))
                  refine V_ild2 dX7_who_98 ?_
                  refine V_ifne (tgt := 113) dX7_who_99 (by decide) (fun c99 => ?_) (fun c99 => ?_)
                  · exact absurd cw c99
                  · skip
                    refine V_ald0 dX7_who_102 ?_
                    refine V_getR dX7_who_103 flX7_22 (hM.1 0 (0, 7) rfl) (show G 40 0 10 = some (40, 11) from hM.2 10 (1, 8) rfl) ?_
                    refine V_ild1 dX7_who_106 ?_
                    refine V_ild9 dX7_who_107 ?_
                    refine V_iasr dX7_who_109 (hM.1 11 (1, 8) rfl) (by omega) (by decide) ?_
                    refine V_cc (by decide) ?_
                    rw [va_up_no _ _ (by decide)]
                    refine V_goto (tgt := 123) dX7_who_110 (by decide) ?_
                    refine V_ild8 dX7_who_123 ?_
                    refine V_ald0 dX7_who_125 ?_
                    refine V_bipush (v := nI 40) dX7_who_126 (by decide) ?_
                    refine V_ild3 dX7_who_128 ?_
                    refine V_imulN dX7_who_129 ?_
                    refine V_ild4 dX7_who_130 ?_
                    refine V_iaddN dX7_who_132 ?_
                    refine V_ild5 dX7_who_133 ?_
                    refine V_iv2 dX7_who_135 wlX7_237 mdX7_isSo miX7_isSo rfl (hM.1 0 (0, 7) rfl) rfl rfl (kX7_isSo hM (rOK.sort (hk2.ag hf) p (nI (1 + i))) (a := 40 * r + jj) (n := n) (by omega) (fun f2 => ⟨rfl, ?_⟩))
                    rw [show rSo _ _ mb _ n (40 * r + jj) f true = pv (1 + i) from hv0 p r jj n rfl hp rfl (by omega) rfl hjn rfl cw (1 + i) (by omega) (by omega) _ _ f (by rw [va_up_no _ _ (by decide), e0]; exact b0) (fun q => by rw [va_up_eq, e11, upd_upd2, b11]) (fun j hj => (hf j hj).trans (by rw [ec 13 (by decide) (by decide), b13])) _ (by rw [va_up_no _ _ (by decide), ec 3 (by decide) (by decide)]; exact b3)]
                    refine V_ifeqB (tgt := 148) dX7_who_138 (by decide) (fun c138 => ?_) (fun c138 => ?_)
                    · skip
                      refine V_iconst (v := nI 0) dX7_who_148 (by decide) ?_
                      refine V_ior dX7_who_149 ?_
                      refine V_ist8 dX7_who_150 rfl ?_
                      refine V_incN9 dX7_who_152 rfl ?_
                      refine V_goto (tgt := 80) dX7_who_155 (by decide) ?_
                      have hq := fun S4 => hni (by omega) S4
                      rw [fitS, if_neg c138] at hq
                      exact hq _ (by rw [va_up_no _ _ (by decide), va_up_no _ _ (by decide)]; exact e0) ⟨_, by rw [va_up_no _ _ (by decide), va_up_eq, e11, upd_upd2]⟩ (fun c h1 h2 => by rw [va_up_no _ _ h2, va_up_no _ _ h1]; exact ec c h1 h2)
                    · skip
                      refine V_iconst (v := nI 1) dX7_who_141 (by decide) ?_
                      refine V_ild9 dX7_who_142 ?_
                      refine V_ishl dX7_who_144 ?_
                      refine V_goto (tgt := 149) dX7_who_145 (by decide) ?_
                      refine V_ior dX7_who_149 ?_
                      refine V_ist8 dX7_who_150 rfl ?_
                      refine V_incN9 dX7_who_152 rfl ?_
                      refine V_goto (tgt := 80) dX7_who_155 (by decide) ?_
                      have hq := fun S4 => hni (by omega) S4
                      rw [fitS, if_pos c138] at hq
                      exact hq _ (by rw [va_up_no _ _ (by decide), va_up_no _ _ (by decide)]; exact e0) ⟨_, by rw [va_up_no _ _ (by decide), va_up_eq, e11, upd_upd2]⟩ (fun c h1 h2 => by rw [va_up_no _ _ h2, va_up_no _ _ h1]; exact ec c h1 h2)
        · skip
          refine V_ldc dX7_who_36 wkX7_84 ?_
          refine V_ireturn dX7_who_38 ⟨_, rfl, vp_nar_int _⟩ ?_
          have hq := hQ S (by rw [if_neg (fun h => c33 h.2.2.2)]; exact rKeep.rf S)
          rw [if_neg (fun h => c33 h.2.2.2)] at hq
          exact hq
end KM
