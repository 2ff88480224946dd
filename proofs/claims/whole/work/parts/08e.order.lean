def rSm (g : Nat → Int32) : Nat → Int32
  | 0 => nI 0
  | i + 1 => rSm g i + (if g (49 + i) = nI 9 then g (55 + i) else nI 0)
def rReW (π : Nat → Nat) (s f : Nat → Int32) : Nat → Nat → Int32
  | 0 => f
  | i + 1 => upd (rReW π s f i) (55 + i) (s (55 + π i))
theorem rOK.reW {o so : Nat → Int32} {mb pn : Nat} {f : Nat → Int32} (h : rOK o so mb pn f) (π : Nat → Nat) (s : Nat → Int32) : ∀ n, n ≤ mb → rOK o so mb pn (rReW π s f n)
  | 0, _ => h
  | n + 1, hn => by rw [rReW]; exact (h.reW π s n (by omega)).wt (by omega) _
def aOrd (mb : Nat) (v : Nat → Int32) (y : Int32) : Int32 := if y < 0 then (ordF v (pL mb) (-1, 0)).1 else if y < nI mb then nI (dg mb (ordF v (pL mb) (-1, 0)).2 y.toNatClampNeg) else -1000000
section KM
variable {d : Nat} {b : Nat × Nat} {Y : xY} {G : xG} {N : xM} {S : xT} {f : Nat → Int32} {Q : Option xAV → xY → xG → xM → Prop} {c : Nat}
theorem xOrdR (hM : xMo Y G) {mb pn n : Nat} (hm : 1 ≤ mb) (hn : n ≤ 60) (hk : rOK (S 0) (S 11) mb pn (S 13)) {y : Int32} {v : Nat → Int32} (hv : ∀ c, c ∈ pL mb → ∀ f, ag f (S 13) → rSm (rGo (S 0) (S 11) mb n (rReW (dg mb c) (S 13) f mb)) mb = v c) (hv0 : ∀ c, c ∈ pL mb → 0 ≤ v c) (hQ : (∀ S2, rKeep S S2 → Q (some (xI (aOrd mb v y))) Y G (va_up N 40 S2))) : ∀ (l : List Nat), ∀ (p : List Nat) (c : Nat) (S2 : xT) (l5 l6 : Option xAV), pL mb = p ++ c :: l → chN mb (c :: l) = true → S2 0 = S 0 → S2 11 = S 11 → S2 13 = S 13 → rKeep S S2 → isP mb (S2 18) (dg mb c) → (0 ≤ (ordF v p (-1, 0)).1 → isP mb (S2 30) (dg mb (ordF v p (-1, 0)).2)) → V RX7 false cX7_order 7 (some .int) none (d + 4) b 37 [some (xR 40 0), some (xI (nI n)), some (xI y), some (xI (ordF v p (-1, 0)).1), some (xI 1), l5, l6] [] Y G (va_up N 40 S2) Q := by
  have hmb := hk.mb
  have key : ∀ (z : Nat) (l : List Nat), l.length < z → ∀ (p : List Nat) (c : Nat) (S2 : xT) (l5 l6 : Option xAV), pL mb = p ++ c :: l → chN mb (c :: l) = true → S2 0 = S 0 → S2 11 = S 11 → S2 13 = S 13 → rKeep S S2 → isP mb (S2 18) (dg mb c) → (0 ≤ (ordF v p (-1, 0)).1 → isP mb (S2 30) (dg mb (ordF v p (-1, 0)).2)) → V RX7 false cX7_order 7 (some .int) none (d + 4) b 37 [some (xR 40 0), some (xI (nI n)), some (xI y), some (xI (ordF v p (-1, 0)).1), some (xI 1), l5, l6] [] Y G (va_up N 40 S2) Q := by
    intro z
    induction z with
    | zero => intro l hl; exact absurd hl (by omega)
    | succ z ih =>
      intro l hlen p c S2 l5 l6 hL hch e0 e11 e13 hkeep hP i5
      have hcL : c ∈ pL mb := by rw [hL]; simp
      have hk2 : rOK (S2 0) (S2 11) mb pn (S2 13) := by rw [e0, e11, e13]; exact hk
      refine V_ild4 dX7_order_37 ?_
      refine V_ifeq (tgt := 182) dX7_order_39 (by decide) (fun c39 => absurd c39 (by decide)) (fun _ => ?_)
      refine V_ald0 dX7_order_42 ?_
      refine V_iv0 dX7_order_43 wlX7_202 mdX7_asItIs miX7_asItIs rfl (hM.1 0 (0, 7) rfl) rfl rfl (kX7_asItIs hM (fun f hf => ⟨rfl, ?_⟩))
      refine V_iconst (v := nI 0) dX7_order_46 (by decide) ?_
      refine V_ist5 dX7_order_47 rfl ?_
      refine xDown (P := fun j => V RX7 false cX7_order 7 (some .int) none (d + 4) b 49 [some (xR 40 0), some (xI (nI n)), some (xI y), some (xI (ordF v p (-1, 0)).1), some (xI 1), some (xI (nI j)), l6] [] Y G (va_up N 40 (va_up S2 19 (rReW (dg mb c) (S2 13) f j))) Q) mb ?_ 0 (Nat.zero_le _)
      intro j hij hnj
      refine V_ild5 dX7_order_49 ?_
      refine V_ald0 dX7_order_51 ?_
      refine V_getIs dX7_order_52 flX7_74 (hM.1 0 (0, 7) rfl) (by decide) ?_
      refine V_eqI hk2.e8 ?_
      refine V_icmpgeN (tgt := 89) dX7_order_55 (by decide) (by omega) (by omega) (fun c55 => ?_) (fun c55 => ?_)
      · skip
        rw [show j = mb by omega]
        refine V_ald0 dX7_order_89 ?_
        refine V_ild1 dX7_order_90 ?_
        refine V_iv1 dX7_order_91 wlX7_205 mdX7_goes miX7_goes rfl (hM.1 0 (0, 7) rfl) rfl rfl (kX7_goes hM ((hk2.ag hf).reW (dg mb c) (S2 13) mb (Nat.le_refl _)) (by omega) ⟨rfl, ?_⟩)
        refine V_iconst (v := nI 0) dX7_order_94 (by decide) ?_
        refine V_ist5 dX7_order_95 rfl ?_
        refine V_iconst (v := nI 0) dX7_order_97 (by decide) ?_
        refine V_ist6 dX7_order_98 rfl ?_
        refine xDown (P := fun q => V RX7 false cX7_order 7 (some .int) none (d + 4) b 100 [some (xR 40 0), some (xI (nI n)), some (xI y), some (xI (ordF v p (-1, 0)).1), some (xI 1), some (xI (rSm (rGo (S2 0) (S2 11) mb n (rReW (dg mb c) (S2 13) f mb)) q)), some (xI (nI q))] [] Y G (va_up N 40 (va_up S2 19 (rGo (S2 0) (S2 11) mb n (rReW (dg mb c) (S2 13) f mb)))) Q) mb ?_ 0 (Nat.zero_le _)
        intro q hiq hnq
        refine V_ild6 dX7_order_100 ?_
        refine V_ald0 dX7_order_102 ?_
        refine V_getIs dX7_order_103 flX7_74 (hM.1 0 (0, 7) rfl) (by decide) ?_
        refine V_eqI hk2.e8 ?_
        refine V_icmpgeN (tgt := 149) dX7_order_106 (by decide) (by omega) (by omega) (fun c106 => ?_) (fun c106 => ?_)
        · skip
          rw [show q = mb by omega, show rSm _ mb = v c by rw [e0, e11, e13]; exact hv c hcL f (fun j hj => (hf j hj).trans (by rw [e13]))]
          refine V_ild5 dX7_order_149 ?_
          refine V_ild3 dX7_order_151 ?_
          refine V_icmple (tgt := 173) dX7_order_152 (by decide) (fun c152 => ?_) (fun c152 => ?_)
          · have hst : (ordF v (p ++ [c]) (-1, 0)) = ordF v p (-1, 0) := by rw [ordF_app, if_neg (Int32.not_lt.mpr c152)]
            have hnn : 0 ≤ (ordF v p (-1, 0)).1 := Int32.le_trans (hv0 c hcL) c152
            obtain ⟨S3, hS3⟩ : ∃ S3, S3 = (va_up S2 19 (rGo (S2 0) (S2 11) mb n (rReW (dg mb c) (S2 13) f mb))) := ⟨_, rfl⟩
            rw [← hS3]
            have g0 : S3 0 = S 0 := by rw [hS3, va_up_no _ _ (by decide)]; exact e0
            have g11 : S3 11 = S 11 := by rw [hS3, va_up_no _ _ (by decide)]; exact e11
            have g13 : S3 13 = S 13 := by rw [hS3, va_up_no _ _ (by decide)]; exact e13
            have gk : rKeep S S3 := by rw [hS3]; exact hkeep.n2 _
            have gP : isP mb (S3 18) (dg mb c) := by rw [hS3, va_up_no _ _ (by decide)]; exact hP
            have g5 : isP mb (S3 30) (dg mb (ordF v (p ++ [c]) (-1, 0)).2) := by rw [hst, hS3, va_up_no _ _ (by decide)]; exact i5 hnn
            rw [show (ordF v p (-1, 0)).1 = (ordF v (p ++ [c]) (-1, 0)).1 by rw [hst]]
            refine V_ald0 dX7_order_173 ?_
            refine V_iv0 dX7_order_174 wlX7_220 mdX7_nextOrder miX7_nextOrder rfl (hM.1 0 (0, 7) rfl) rfl rfl (kX7_nextOrder hM (by rw [g0]; exact hk.e8) hm (by omega) gP (fun hr g => ⟨rfl, ?_⟩) (fun r hr hr0 g hg => ⟨rfl, ?_⟩))
            · skip
              refine V_ist4 dX7_order_177 rfl ?_
              refine V_goto (tgt := 37) dX7_order_179 (by decide) ?_
              refine V_ild4 dX7_order_37 ?_
              refine V_ifeq (tgt := 182) dX7_order_39 (by decide) (fun _ => ?_) (fun c39 => absurd rfl c39)
              have hl : l = [] := by
                cases l with
                | nil => rfl
                | cons c2 t =>
                  rw [chN, Bool.and_eq_true, Bool.and_eq_true, Bool.and_eq_true] at hch
                  exact absurd (Nat.blt_eq.mp hch.1.1.1) (by omega)
              have hLp : p ++ [c] = pL mb := by rw [hL, hl]
              rw [hLp] at g5 ⊢
              have hq := hQ _ (gk.tr (rKeep.up (c := 18) (by omega) g))
              unfold aOrd at hq
              refine V_ild2 dX7_order_182 ?_
              refine V_ifge (tgt := 190) dX7_order_183 (by decide) (fun c183 => ?_) (fun c183 => ?_)
              · skip
                refine V_ild2 dX7_order_190 ?_
                refine V_ald0 dX7_order_191 ?_
                refine V_getIr dX7_order_192 flX7_74 (hM.1 0 (0, 7) rfl) ?_
                refine V_eqI (by rw [va_up_no _ _ (by decide), g0]; exact hk.e8 : _ = nI mb) ?_
                refine V_icmpge (tgt := 207) dX7_order_195 (by decide) (fun c195 => ?_) (fun c195 => ?_)
                · skip
                  refine V_ldc dX7_order_207 wkX7_135 ?_
                  refine V_ireturn dX7_order_209 ⟨_, rfl, vp_nar_int _⟩ ?_
                  rw [if_neg (Int32.not_lt.mpr c183), if_neg (Int32.not_lt.mpr c195)] at hq
                  exact hq
                · skip
                  obtain ⟨jj, hjj, rfl⟩ : ∃ jj, jj < mb ∧ y = nI jj := by
                    rcases pk_ix y (n := mb) (by omega) with q | q | q
                    · exact absurd c183 (Int32.not_le.mpr q)
                    · exact absurd q c195
                    · exact q
                  refine V_ald0 dX7_order_198 ?_
                  refine V_getR dX7_order_199 flX7_53 (hM.1 0 (0, 7) rfl) (show G 40 0 29 = some (40, 30) from hM.2 29 (1, 6) rfl) ?_
                  refine V_ild2 dX7_order_202 ?_
                  refine V_iar dX7_order_203 (hM.1 30 (1, 6) rfl) (by omega) (by decide) ?_
                  refine V_eqI (by rw [va_up_no _ _ (by decide)]; exact (g5 jj hjj).1 : _ = nI (dg mb (ordF v (pL mb) (-1, 0)).2 jj)) ?_
                  refine V_goto (tgt := 209) dX7_order_204 (by decide) ?_
                  refine V_ireturn dX7_order_209 ⟨_, rfl, vp_nar_int _⟩ ?_
                  rw [if_neg (Int32.not_lt.mpr c183), if_pos (Int32.not_le.mp c195), nI_clamp (by omega)] at hq
                  exact hq
              · skip
                refine V_ild3 dX7_order_186 ?_
                refine V_goto (tgt := 209) dX7_order_187 (by decide) ?_
                refine V_ireturn dX7_order_209 ⟨_, rfl, vp_nar_int _⟩ ?_
                rw [if_pos (Int32.not_le.mp c183)] at hq
                exact hq
            · skip
              refine V_ist4 dX7_order_177 rfl ?_
              refine V_goto (tgt := 37) dX7_order_179 (by decide) ?_
              cases l with
              | nil => rw [chN] at hch; exact absurd (Nat.eq_of_beq_eq_true hch) (by omega)
              | cons c2 t =>
                rw [chN, Bool.and_eq_true, Bool.and_eq_true, Bool.and_eq_true] at hch
                have hc2 := Nat.eq_of_beq_eq_true hch.1.1.2
                exact ih t (by rw [List.length_cons] at hlen; omega) (p ++ [c]) c2 (va_up S3 18 g) _ _ (by rw [hL, List.append_assoc]; rfl) hch.2 (by rw [va_up_no _ _ (by decide)]; exact g0) (by rw [va_up_no _ _ (by decide)]; exact g11) (by rw [va_up_no _ _ (by decide)]; exact g13) (gk.tr (rKeep.up (by omega) _)) (fun j hj => by rw [va_up_eq]; exact ⟨by rw [(hg j hj).1, ← hc2, dg_enc (fun j hj => by have := (hg j hj).2; omega) hj], by rw [← hc2, dg_enc (fun j hj => by have := (hg j hj).2; omega) hj]; exact (hg j hj).2⟩) (fun _ => by rw [va_up_no _ _ (by decide)]; exact g5)
          · have hst : (ordF v (p ++ [c]) (-1, 0)) = (v c, c) := by rw [ordF_app, if_pos (Int32.not_le.mp c152)]
            refine V_ild5 dX7_order_155 ?_
            refine V_ist3 dX7_order_157 rfl ?_
            refine V_ald0 dX7_order_158 ?_
            refine V_getR dX7_order_159 flX7_38 (hM.1 0 (0, 7) rfl) (show G 40 0 17 = some (40, 18) from hM.2 17 (1, 6) rfl) ?_
            refine V_iconst (v := nI 0) dX7_order_162 (by decide) ?_
            refine V_ald0 dX7_order_163 ?_
            refine V_getR dX7_order_164 flX7_53 (hM.1 0 (0, 7) rfl) (show G 40 0 29 = some (40, 30) from hM.2 29 (1, 6) rfl) ?_
            refine V_iconst (v := nI 0) dX7_order_167 (by decide) ?_
            refine V_bipush (v := nI 6) dX7_order_168 (by decide) ?_
            refine V_sub 40 30 ?_
            refine V_is5 dX7_order_170 wlX7_155 mdX7_bring msX7_bring rfl rfl (kX7_bring (c := 30) (a := 18) (by decide) (hM.1 18 (1, 6) rfl) (hM.1 30 (1, 6) rfl) (by decide) (by decide) (by decide) (by decide) ⟨rfl, ?_⟩)
            obtain ⟨S3, hS3⟩ : ∃ S3, S3 = va_up (va_up S2 19 (rGo (S2 0) (S2 11) mb n (rReW (dg mb c) (S2 13) f mb))) 30 (rBring ((va_up S2 19 (rGo (S2 0) (S2 11) mb n (rReW (dg mb c) (S2 13) f mb))) 18) ((va_up S2 19 (rGo (S2 0) (S2 11) mb n (rReW (dg mb c) (S2 13) f mb))) 30) 0 0 6) := ⟨_, rfl⟩
            rw [← hS3]
            have g0 : S3 0 = S 0 := by rw [hS3, va_up_no _ _ (by decide), va_up_no _ _ (by decide)]; exact e0
            have g11 : S3 11 = S 11 := by rw [hS3, va_up_no _ _ (by decide), va_up_no _ _ (by decide)]; exact e11
            have g13 : S3 13 = S 13 := by rw [hS3, va_up_no _ _ (by decide), va_up_no _ _ (by decide)]; exact e13
            have gk : rKeep S S3 := by rw [hS3]; exact (hkeep.n2 _).tr (rKeep.up (by omega) _)
            have gP : isP mb (S3 18) (dg mb c) := by rw [hS3, va_up_no _ _ (by decide), va_up_no _ _ (by decide)]; exact hP
            have g5 : isP mb (S3 30) (dg mb (ordF v (p ++ [c]) (-1, 0)).2) := by
              rw [hst, hS3, va_up_eq]
              intro j hj
              rw [rBring_at, if_pos ⟨Nat.zero_le _, by omega⟩, va_up_no _ _ (by decide), show 0 + (j - 0) = j by omega]
              exact hP j hj
            rw [show v c = (ordF v (p ++ [c]) (-1, 0)).1 by rw [hst]]
            refine V_ald0 dX7_order_173 ?_
            refine V_iv0 dX7_order_174 wlX7_220 mdX7_nextOrder miX7_nextOrder rfl (hM.1 0 (0, 7) rfl) rfl rfl (kX7_nextOrder hM (by rw [g0]; exact hk.e8) hm (by omega) gP (fun hr g => ⟨rfl, ?_⟩) (fun r hr hr0 g hg => ⟨rfl, ?_⟩))
            · skip
              refine V_ist4 dX7_order_177 rfl ?_
              refine V_goto (tgt := 37) dX7_order_179 (by decide) ?_
              refine V_ild4 dX7_order_37 ?_
              refine V_ifeq (tgt := 182) dX7_order_39 (by decide) (fun _ => ?_) (fun c39 => absurd rfl c39)
              have hl : l = [] := by
                cases l with
                | nil => rfl
                | cons c2 t =>
                  rw [chN, Bool.and_eq_true, Bool.and_eq_true, Bool.and_eq_true] at hch
                  exact absurd (Nat.blt_eq.mp hch.1.1.1) (by omega)
              have hLp : p ++ [c] = pL mb := by rw [hL, hl]
              rw [hLp] at g5 ⊢
              have hq := hQ _ (gk.tr (rKeep.up (c := 18) (by omega) g))
              unfold aOrd at hq
              refine V_ild2 dX7_order_182 ?_
              refine V_ifge (tgt := 190) dX7_order_183 (by decide) (fun c183 => ?_) (fun c183 => ?_)
              · skip
                refine V_ild2 dX7_order_190 ?_
                refine V_ald0 dX7_order_191 ?_
                refine V_getIr dX7_order_192 flX7_74 (hM.1 0 (0, 7) rfl) ?_
                refine V_eqI (by rw [va_up_no _ _ (by decide), g0]; exact hk.e8 : _ = nI mb) ?_
                refine V_icmpge (tgt := 207) dX7_order_195 (by decide) (fun c195 => ?_) (fun c195 => ?_)
                · skip
                  refine V_ldc dX7_order_207 wkX7_135 ?_
                  refine V_ireturn dX7_order_209 ⟨_, rfl, vp_nar_int _⟩ ?_
                  rw [if_neg (Int32.not_lt.mpr c183), if_neg (Int32.not_lt.mpr c195)] at hq
                  exact hq
                · skip
                  obtain ⟨jj, hjj, rfl⟩ : ∃ jj, jj < mb ∧ y = nI jj := by
                    rcases pk_ix y (n := mb) (by omega) with q | q | q
                    · exact absurd c183 (Int32.not_le.mpr q)
                    · exact absurd q c195
                    · exact q
                  refine V_ald0 dX7_order_198 ?_
                  refine V_getR dX7_order_199 flX7_53 (hM.1 0 (0, 7) rfl) (show G 40 0 29 = some (40, 30) from hM.2 29 (1, 6) rfl) ?_
                  refine V_ild2 dX7_order_202 ?_
                  refine V_iar dX7_order_203 (hM.1 30 (1, 6) rfl) (by omega) (by decide) ?_
                  refine V_eqI (by rw [va_up_no _ _ (by decide)]; exact (g5 jj hjj).1 : _ = nI (dg mb (ordF v (pL mb) (-1, 0)).2 jj)) ?_
                  refine V_goto (tgt := 209) dX7_order_204 (by decide) ?_
                  refine V_ireturn dX7_order_209 ⟨_, rfl, vp_nar_int _⟩ ?_
                  rw [if_neg (Int32.not_lt.mpr c183), if_pos (Int32.not_le.mp c195), nI_clamp (by omega)] at hq
                  exact hq
              · skip
                refine V_ild3 dX7_order_186 ?_
                refine V_goto (tgt := 209) dX7_order_187 (by decide) ?_
                refine V_ireturn dX7_order_209 ⟨_, rfl, vp_nar_int _⟩ ?_
                rw [if_pos (Int32.not_le.mp c183)] at hq
                exact hq
            · skip
              refine V_ist4 dX7_order_177 rfl ?_
              refine V_goto (tgt := 37) dX7_order_179 (by decide) ?_
              cases l with
              | nil => rw [chN] at hch; exact absurd (Nat.eq_of_beq_eq_true hch) (by omega)
              | cons c2 t =>
                rw [chN, Bool.and_eq_true, Bool.and_eq_true, Bool.and_eq_true] at hch
                have hc2 := Nat.eq_of_beq_eq_true hch.1.1.2
                exact ih t (by rw [List.length_cons] at hlen; omega) (p ++ [c]) c2 (va_up S3 18 g) _ _ (by rw [hL, List.append_assoc]; rfl) hch.2 (by rw [va_up_no _ _ (by decide)]; exact g0) (by rw [va_up_no _ _ (by decide)]; exact g11) (by rw [va_up_no _ _ (by decide)]; exact g13) (gk.tr (rKeep.up (by omega) _)) (fun j hj => by rw [va_up_eq]; exact ⟨by rw [(hg j hj).1, ← hc2, dg_enc (fun j hj => by have := (hg j hj).2; omega) hj], by rw [← hc2, dg_enc (fun j hj => by have := (hg j hj).2; omega) hj]; exact (hg j hj).2⟩) (fun _ => by rw [va_up_no _ _ (by decide)]; exact g5)
        · skip
          refine V_ild5 dX7_order_109 ?_
          refine V_ald0 dX7_order_111 ?_
          refine V_getR dX7_order_112 flX7_41 (hM.1 0 (0, 7) rfl) (show G 40 0 18 = some (40, 19) from hM.2 18 (1, 67) rfl) ?_
          refine V_bipush (v := nI 49) dX7_order_115 (by decide) ?_
          refine V_ild6 dX7_order_117 ?_
          refine V_iaddN dX7_order_119 ?_
          refine V_iac dX7_order_120 (hM.1 19 (1, 67) rfl) (by omega) (by decide) ?_
          refine V_bipush (v := nI 9) dX7_order_121 (by decide) ?_
          refine V_icmpne (tgt := 139) dX7_order_123 (by decide) (fun c123 => ?_) (fun c123 => ?_)
          · skip
            refine V_iconst (v := nI 0) dX7_order_139 (by decide) ?_
            refine V_iadd dX7_order_140 ?_
            refine V_ist5 dX7_order_141 rfl ?_
            refine V_incN6 dX7_order_143 rfl ?_
            refine V_goto (tgt := 100) dX7_order_146 (by decide) ?_
            have hnq := hnq (by omega)
            rw [rSm, if_neg c123] at hnq
            exact hnq
          · skip
            refine V_ald0 dX7_order_126 ?_
            refine V_getR dX7_order_127 flX7_41 (hM.1 0 (0, 7) rfl) (show G 40 0 18 = some (40, 19) from hM.2 18 (1, 67) rfl) ?_
            refine V_bipush (v := nI 55) dX7_order_130 (by decide) ?_
            refine V_ild6 dX7_order_132 ?_
            refine V_iaddN dX7_order_134 ?_
            refine V_iac dX7_order_135 (hM.1 19 (1, 67) rfl) (by omega) (by decide) ?_
            refine V_goto (tgt := 140) dX7_order_136 (by decide) ?_
            refine V_iadd dX7_order_140 ?_
            refine V_ist5 dX7_order_141 rfl ?_
            refine V_incN6 dX7_order_143 rfl ?_
            refine V_goto (tgt := 100) dX7_order_146 (by decide) ?_
            have hnq := hnq (by omega)
            rw [rSm, if_pos c123] at hnq
            exact hnq
      · skip
        refine V_ald0 dX7_order_58 ?_
        refine V_getR dX7_order_59 flX7_41 (hM.1 0 (0, 7) rfl) (show G 40 0 18 = some (40, 19) from hM.2 18 (1, 67) rfl) ?_
        refine V_bipush (v := nI 55) dX7_order_62 (by decide) ?_
        refine V_ild5 dX7_order_64 ?_
        refine V_iaddN dX7_order_66 ?_
        refine V_ald0 dX7_order_67 ?_
        refine V_getR dX7_order_68 flX7_25 (hM.1 0 (0, 7) rfl) (show G 40 0 12 = some (40, 13) from hM.2 12 (1, 67) rfl) ?_
        refine V_bipush (v := nI 55) dX7_order_71 (by decide) ?_
        refine V_ald0 dX7_order_73 ?_
        refine V_getR dX7_order_74 flX7_38 (hM.1 0 (0, 7) rfl) (show G 40 0 17 = some (40, 18) from hM.2 17 (1, 6) rfl) ?_
        refine V_ild5 dX7_order_77 ?_
        refine V_ian dX7_order_79 (hM.1 18 (1, 6) rfl) (by decide) (by omega) (by decide) ?_
        refine V_eqI (hP j (by omega)).1 ?_
        refine V_iaddN dX7_order_80 ?_
        refine V_ian dX7_order_81 (hM.1 13 (1, 67) rfl) (by decide) (by have := (hP j (by omega)).2; omega) (by decide) ?_
        refine V_iasc dX7_order_82 (hM.1 19 (1, 67) rfl) (by omega) (by decide) ?_
        refine V_incN5 dX7_order_83 rfl ?_
        refine V_goto (tgt := 49) dX7_order_86 (by decide) ?_
        exact hnj (by omega)

  exact fun l => key _ l (Nat.lt_succ_self _)
theorem kX7_order (hM : xMo Y G) {mb pn : Nat} (hr : rSt S mb pn) {z y : Int32} {v : Nat → Int32} (hv : ∀ n, z = nI n → n ≤ 40 → 1 ≤ mb → rOK (S 0) (S 11) mb pn (S 13) → ∀ c, c ∈ pL mb → ∀ f, ag f (S 13) → rSm (rGo (S 0) (S 11) mb n (rReW (dg mb c) (S 13) f mb)) mb = v c) (hv0 : ∀ c, c ∈ pL mb → 0 ≤ v c) (hQ : ∀ S2, rKeep S S2 → Q (some (xI (if nI pn = 0 then -1000002 else if rIn z (nI 1) (nI 40) ∧ ¬ y < -1 then aOrd mb v y else -1000001))) Y G (va_up N 40 S2)) : V RX7 false cX7_order 7 (some .int) none (d + 4) b 0 [some (xR 40 0), some (xI z), some (xI y), none, none, none, none] [] Y G (va_up N 40 S) Q := by
  refine V_ald0 dX7_order_0 ?_
  refine V_iv0 dX7_order_1 wlX7_174 mdX7_isNone miX7_isNone rfl (hM.1 0 (0, 7) rfl) rfl rfl (kX7_isNone hM ⟨rfl, ?_⟩)
  rw [hr.2.1]
  refine V_ifeqB (tgt := 10) dX7_order_4 (by decide) (fun c4 => ?_) (fun c4 => ?_)
  · skip
    refine V_ild1 dX7_order_10 ?_
    refine V_iconst (v := nI 1) dX7_order_11 (by decide) ?_
    refine V_bipush (v := nI 40) dX7_order_12 (by decide) ?_
    refine V_is3 dX7_order_14 wlX7_70 mdX7_in msX7_in rfl rfl (kX7_in ⟨rfl, ?_⟩)
    refine V_ifeqB (tgt := 25) dX7_order_17 (by decide) (fun c17 => ?_) (fun c17 => ?_)
    · skip
      refine V_ldc dX7_order_25 wkX7_84 ?_
      refine V_ireturn dX7_order_27 ⟨_, rfl, vp_nar_int _⟩ ?_
      have hq := hQ S (rKeep.rf S)
      rw [if_neg c4, if_neg (fun h => c17 h.1)] at hq
      exact hq
    · skip
      refine V_ild2 dX7_order_20 ?_
      refine V_iconst (v := (-1)) dX7_order_21 (by decide) ?_
      refine V_icmpge (tgt := 28) dX7_order_22 (by decide) (fun c22 => ?_) (fun c22 => ?_)
      · skip
        obtain ⟨n, hn0, hn1, rfl⟩ := rIn_k c17 (by decide) (by decide)
        obtain ⟨hm1, hk⟩ := hr.ok0 c4
        have hmb := hk.mb
        obtain ⟨o1, o2, o3, o4, t, o5⟩ := ordC hm1 hmb
        refine V_iconst (v := (-1)) dX7_order_28 (by decide) ?_
        refine V_ist3 dX7_order_29 rfl ?_
        refine V_iconst (v := 1) dX7_order_30 (by decide) ?_
        refine V_ist4 dX7_order_31 rfl ?_
        refine V_ald0 dX7_order_33 ?_
        refine V_iv0 dX7_order_34 wlX7_62 mdX7_byNumbers miX7_byNumbers rfl (hM.1 0 (0, 7) rfl) rfl rfl (kX7_byNumbers hM (fun g hg => ⟨rfl, ?_⟩))
        refine xOrdR hM hm1 (by omega) hk (hv n rfl hn1 hm1 hk) hv0 (fun S2 hk2 => ?_) t [] _ _ _ _ o5 (by rw [← o5]; exact o1) (va_up_no _ _ (by decide)) (va_up_no _ _ (by decide)) (va_up_no _ _ (by decide)) (rKeep.up (by omega) g) (fun j hj => by rw [va_up_eq, dg_enc (fun j hj => by omega) hj]; exact ⟨hg j (by omega), hj⟩) (fun h => absurd (show (0 : Int32) ≤ -1 from h) (by decide))
        have hq := hQ S2 hk2
        rw [if_neg c4, if_pos ⟨c17, Int32.not_lt.mpr c22⟩] at hq
        exact hq
      · skip
        refine V_ldc dX7_order_25 wkX7_84 ?_
        refine V_ireturn dX7_order_27 ⟨_, rfl, vp_nar_int _⟩ ?_
        have hq := hQ S (rKeep.rf S)
        rw [if_neg c4, if_neg (fun h => h.2 (Int32.not_le.mp c22))] at hq
        exact hq
  · skip
    refine V_ldc dX7_order_7 wkX7_173 ?_
    refine V_ireturn dX7_order_9 ⟨_, rfl, vp_nar_int _⟩ ?_
    have hq := hQ S (rKeep.rf S)
    rw [if_pos c4] at hq
    exact hq
end KM
