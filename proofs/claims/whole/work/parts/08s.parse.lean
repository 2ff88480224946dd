def rMl : (Nat → Int32) → Nat → List (Int32 × Int32) → Nat → Int32
  | f, _, [] => f
  | f, i, q :: l => rMl (upd (upd (upd f (55 + i) q.1) (61 + i) q.2) (49 + i) (nI 10)) (i + 1) l
def rPl : (Nat → Int32) → Nat → List (Int32 × Int32 × Int32 × Int32) → Nat → Int32
  | f, _, [] => f
  | f, i, q :: l => rPl (upd (upd (upd f (1 + i) q.2.1) (9 + i) q.2.2.1) (17 + i) q.2.2.2) (i + 1) l
def rSl : (Nat → Int32) → Nat → List (Int32 × Int32 × Int32 × Int32) → Nat → Int32
  | g, _, [] => g
  | g, i, q :: l => rSl (upd g i q.1) (i + 1) l
theorem rKeep.c5 {S S2 : xT} (h : rKeep S S2) : S2 5 = S 5 := h.1 5 (by decide) (by decide) (by decide) (by decide) (by decide) (by decide) (by decide) (by decide)
theorem rKeep.t {S S2 : xT} (h : rKeep S S2) {n : Nat} (e : S 0 5 = nI n) : S2 0 5 = nI n := (h.2 5 (by decide)).trans e
section KM
variable {d : Nat} {b : Nat × Nat} {Y : xY} {G : xG} {N : xM} {S : xT} {f : Nat → Int32} {Q : Option xAV → xY → xG → xM → Prop} {c : Nat}
theorem xW80 (hM : xMo Y G) {l1 : Option xAV} (hw : ¬ S 0 23 = 0) (hV : V RX7 false cX7_readRun 2 none none (d + 4) b 110 [some (xR 40 0), l1] [] Y G (va_up N 40 S) Q) : V RX7 false cX7_readRun 2 none none (d + 4) b 80 [some (xR 40 0), l1] [] Y G (va_up N 40 S) Q := by
  refine V_ald0 dX7_readRun_80 ?_
  refine V_getIr dX7_readRun_81 flX7_103 (hM.1 0 (0, 7) rfl) ?_
  refine V_ifne (tgt := 110) dX7_readRun_84 (by decide) (fun c84 => ?_) (fun c84 => ?_)
  · skip
    exact hV
  · exact absurd (Classical.byContradiction fun q => absurd c84 q) hw
theorem xW110 (hM : xMo Y G) {l1 : Option xAV} (hw : ¬ S 0 23 = 0) (hQ : Q none Y G (va_up N 40 S)) : V RX7 false cX7_readRun 2 none none (d + 4) b 110 [some (xR 40 0), l1] [] Y G (va_up N 40 S) Q := by
  refine V_ald0 dX7_readRun_110 ?_
  refine V_getIr dX7_readRun_111 flX7_103 (hM.1 0 (0, 7) rfl) ?_
  refine V_ifne (tgt := 142) dX7_readRun_114 (by decide) (fun c114 => ?_) (fun c114 => ?_)
  · skip
    refine V_return dX7_readRun_142 rfl ?_
    exact hQ
  · exact absurd (Classical.byContradiction fun q => absurd c114 q) hw
theorem xRM (hM : xMo Y G) {n : Nat} (hn2 : n ≤ 110) {l1 : Option xAV} : ∀ (k i a : Nat) (S : xT), i + k = 7 → i ≤ 6 → S 0 5 = nI n → S 0 21 = nI a → a ≤ n → S 0 23 = 0 → S 0 25 = nI i → (∀ f pl S2, pMs (S 5) n k i a = .inl (f, pl) → S2 0 23 = nI f → ¬ nI f = 0 → S2 0 22 = nI pl → rKeep S S2 → V RX7 false cX7_readRun 2 none none (d + 4) b 110 [some (xR 40 0), l1] [] Y G (va_up N 40 S2) Q) → (∀ l a2 S2, pMs (S 5) n k i a = .inr (l, a2) → S2 0 21 = nI a2 → a2 ≤ n → S2 0 23 = 0 → S2 0 25 = nI (i + l.length) → S2 0 24 = S 0 24 → S2 0 26 = S 0 26 → S2 29 = rMl (S 29) i l → S2 28 = S 28 → rKeep S S2 → V RX7 false cX7_readRun 2 none none (d + 4) b 110 [some (xR 40 0), l1] [] Y G (va_up N 40 S2) Q) → V RX7 false cX7_readRun 2 none none (d + 4) b 80 [some (xR 40 0), l1] [] Y G (va_up N 40 S) Q := by
  intro k
  induction k with
  | zero => intro i a S h7 h6; exact absurd h7 (by omega)
  | succ k ih =>
      intro i a S h7 hi6 hn ha ha2 hw hi h0 h1
      refine V_ald0 dX7_readRun_80 ?_
      refine V_getIr dX7_readRun_81 flX7_103 (hM.1 0 (0, 7) rfl) ?_
      refine V_ifne (tgt := 110) dX7_readRun_84 (by decide) (fun c84 => ?_) (fun c84 => ?_)
      · exact absurd hw c84
      · skip
        refine V_ald0 dX7_readRun_87 ?_
        refine V_getIr dX7_readRun_88 flX7_120 (hM.1 0 (0, 7) rfl) ?_
        refine V_eqI hi ?_
        refine V_ifeq (tgt := 103) dX7_readRun_91 (by decide) (fun c91 => ?_) (fun c91 => ?_)
        · skip
          refine V_ald0 dX7_readRun_103 ?_
          refine V_iv0 dX7_readRun_104 wlX7_139 mdX7_readMarble miX7_readMarble rfl (hM.1 0 (0, 7) rfl) rfl rfl (kX7_readMarble hM hn hn2 ha ha2 hw hi hi6 (fun c6 => ⟨rfl, ?_⟩) (fun c6 f pl S2 e1 e2 e3 e4 ek => ⟨rfl, ?_⟩) (fun c6 mw ms a2 S2 e1 e2 e3 e4 e5 e6 e7 e8 e9 ek => ⟨rfl, ?_⟩))
          · skip
            refine V_goto (tgt := 80) dX7_readRun_107 (by decide) ?_
            exact xW80 hM (show ¬ nI 3 = 0 by decide) (h0 3 a _ (by rw [pMs, if_pos (Or.inl ((nI_eq (by omega) (by decide)).mp (show nI i = nI 0 from c91))), if_pos c6]) rfl (by decide) rfl (((rKeep.rf S).e (by decide) _).e (by decide) _))
          · skip
            refine V_goto (tgt := 80) dX7_readRun_107 (by decide) ?_
            exact xW80 hM (by rw [e2]; exact e3) (h0 f pl S2 (by rw [pMs, if_pos (Or.inl ((nI_eq (by omega) (by decide)).mp (show nI i = nI 0 from c91))), if_neg (by omega), e1]) e2 e3 e4 ek)
          · skip
            refine V_goto (tgt := 80) dX7_readRun_107 (by decide) ?_
            refine ih (i + 1) a2 S2 (by omega) (by omega) (ek.t hn) e2 e3 e4 e5 (fun f pl S3 q1 q2 q3 q4 qk => ?_) (fun l a3 S3 q1 q2 q3 q4 q5 q6 q7 q8 q9 qk => ?_)
            · rw [ek.c5] at q1
              exact h0 f pl S3 (by rw [pMs, if_pos (Or.inl ((nI_eq (by omega) (by decide)).mp (show nI i = nI 0 from c91))), if_neg (by omega), e1]; show (match pMs (S 5) n k (i + 1) a2 with | .inl e => _ | .inr (l, a3) => _) = _; rw [q1]) q2 q3 q4 (ek.tr qk)
            · rw [ek.c5] at q1
              exact h1 ((mw, ms) :: l) a3 S3 (by rw [pMs, if_pos (Or.inl ((nI_eq (by omega) (by decide)).mp (show nI i = nI 0 from c91))), if_neg (by omega), e1]; show (match pMs (S 5) n k (i + 1) a2 with | .inl e => _ | .inr (l, a3) => _) = _; rw [q1]) q2 q3 q4 (by rw [q5, List.length_cons]; congr 1; omega) (q6.trans e6) (q7.trans e7) (by rw [q8, e8]; rfl) (q9.trans e9) (ek.tr qk)
        · skip
          refine V_ald0 dX7_readRun_94 ?_
          refine V_iv0 dX7_readRun_95 wlX7_109 mdX7_here miX7_here rfl (hM.1 0 (0, 7) rfl) rfl rfl (kX7_here hM hn hn2 ha ha2 ⟨rfl, ?_⟩)
          refine V_bipush (v := nI 109) dX7_readRun_98 (by decide) ?_
          refine V_icmpne (tgt := 110) dX7_readRun_100 (by decide) (fun c100 => ?_) (fun c100 => ?_)
          · skip
            exact h1 [] a S (by rw [pMs, if_neg (fun h => h.elim (fun e => c91 (by rw [e]; rfl)) c100)]) ha ha2 hw hi rfl rfl rfl rfl (rKeep.rf S)
          · skip
            refine V_ald0 dX7_readRun_103 ?_
            refine V_iv0 dX7_readRun_104 wlX7_139 mdX7_readMarble miX7_readMarble rfl (hM.1 0 (0, 7) rfl) rfl rfl (kX7_readMarble hM hn hn2 ha ha2 hw hi hi6 (fun c6 => ⟨rfl, ?_⟩) (fun c6 f pl S2 e1 e2 e3 e4 ek => ⟨rfl, ?_⟩) (fun c6 mw ms a2 S2 e1 e2 e3 e4 e5 e6 e7 e8 e9 ek => ⟨rfl, ?_⟩))
            · skip
              refine V_goto (tgt := 80) dX7_readRun_107 (by decide) ?_
              exact xW80 hM (show ¬ nI 3 = 0 by decide) (h0 3 a _ (by rw [pMs, if_pos (Or.inr c100), if_pos c6]) rfl (by decide) rfl (((rKeep.rf S).e (by decide) _).e (by decide) _))
            · skip
              refine V_goto (tgt := 80) dX7_readRun_107 (by decide) ?_
              exact xW80 hM (by rw [e2]; exact e3) (h0 f pl S2 (by rw [pMs, if_pos (Or.inr c100), if_neg (by omega), e1]) e2 e3 e4 ek)
            · skip
              refine V_goto (tgt := 80) dX7_readRun_107 (by decide) ?_
              refine ih (i + 1) a2 S2 (by omega) (by omega) (ek.t hn) e2 e3 e4 e5 (fun f pl S3 q1 q2 q3 q4 qk => ?_) (fun l a3 S3 q1 q2 q3 q4 q5 q6 q7 q8 q9 qk => ?_)
              · rw [ek.c5] at q1
                exact h0 f pl S3 (by rw [pMs, if_pos (Or.inr c100), if_neg (by omega), e1]; show (match pMs (S 5) n k (i + 1) a2 with | .inl e => _ | .inr (l, a3) => _) = _; rw [q1]) q2 q3 q4 (ek.tr qk)
              · rw [ek.c5] at q1
                exact h1 ((mw, ms) :: l) a3 S3 (by rw [pMs, if_pos (Or.inr c100), if_neg (by omega), e1]; show (match pMs (S 5) n k (i + 1) a2 with | .inl e => _ | .inr (l, a3) => _) = _; rw [q1]) q2 q3 q4 (by rw [q5, List.length_cons]; congr 1; omega) (q6.trans e6) (q7.trans e7) (by rw [q8, e8]; rfl) (q9.trans e9) (ek.tr qk)
theorem xRP (hM : xMo Y G) {n : Nat} (hn2 : n ≤ 110) {l1 : Option xAV} : ∀ (k i a : Nat) (S : xT), i + k = 9 → i ≤ 8 → S 0 5 = nI n → S 0 21 = nI a → a ≤ n → S 0 23 = 0 → S 0 26 = nI i → (∀ j, j < n → ¬ pBy (S 5) n j = -1) → (∀ f pl S2, pPs (S 5) n k i a = .inl (f, pl) → S2 0 23 = nI f → ¬ nI f = 0 → S2 0 22 = nI pl → rKeep S S2 → Q none Y G (va_up N 40 S2)) → (∀ l S2, pPs (S 5) n k i a = .inr l → S2 0 23 = 0 → S2 0 26 = nI (i + l.length) → S2 0 24 = S 0 24 → S2 0 25 = S 0 25 → S2 29 = rPl (S 29) i l → S2 28 = rSl (S 28) i l → rKeep S S2 → Q none Y G (va_up N 40 S2)) → V RX7 false cX7_readRun 2 none none (d + 4) b 110 [some (xR 40 0), l1] [] Y G (va_up N 40 S) Q := by
  intro k
  induction k with
  | zero => intro i a S h7 h6; exact absurd h7 (by omega)
  | succ k ih =>
      intro i a S h7 hi8 hn ha ha2 hw hi hby h0 h1
      refine V_ald0 dX7_readRun_110 ?_
      refine V_getIr dX7_readRun_111 flX7_103 (hM.1 0 (0, 7) rfl) ?_
      refine V_ifne (tgt := 142) dX7_readRun_114 (by decide) (fun c114 => ?_) (fun c114 => ?_)
      · exact absurd hw c114
      · skip
        refine V_ald0 dX7_readRun_117 ?_
        refine V_getIr dX7_readRun_118 flX7_132 (hM.1 0 (0, 7) rfl) ?_
        refine V_eqI hi ?_
        refine V_ifeq (tgt := 135) dX7_readRun_121 (by decide) (fun c121 => ?_) (fun c121 => ?_)
        · skip
          refine V_ald0 dX7_readRun_135 ?_
          refine V_iv0 dX7_readRun_136 wlX7_142 mdX7_readPiece miX7_readPiece rfl (hM.1 0 (0, 7) rfl) rfl rfl (kX7_readPiece hM hn hn2 ha ha2 hw hi hi8 (fun cz => ⟨rfl, ?_⟩) (fun cz c8 => ⟨rfl, ?_⟩) (fun cz c8 f pl S2 e1 e2 e3 e4 ek => ⟨rfl, ?_⟩) (fun cz c8 pv pl pr a2 S2 e1 e2 e3 e4 e5 e6 e7 e8 e9 ek => ⟨rfl, ?_⟩))
          · skip
            refine V_goto (tgt := 110) dX7_readRun_139 (by decide) ?_
            exact xW110 hM (show ¬ nI 1 = 0 by decide) (h0 1 a _ (by rw [pPs, if_pos (Or.inl ((nI_eq (by omega) (by decide)).mp (show nI i = nI 0 from c121))), if_pos cz]) rfl (by decide) rfl (((rKeep.rf S).e (by decide) _).e (by decide) _))
          · skip
            refine V_goto (tgt := 110) dX7_readRun_139 (by decide) ?_
            exact xW110 hM (show ¬ nI 3 = 0 by decide) (h0 3 a _ (by rw [pPs, if_pos (Or.inl ((nI_eq (by omega) (by decide)).mp (show nI i = nI 0 from c121))), if_neg cz, if_pos c8]) rfl (by decide) rfl (((rKeep.rf S).e (by decide) _).e (by decide) _))
          · skip
            refine V_goto (tgt := 110) dX7_readRun_139 (by decide) ?_
            exact xW110 hM (by rw [e2]; exact e3) (h0 f pl S2 (by rw [pPs, if_pos (Or.inl ((nI_eq (by omega) (by decide)).mp (show nI i = nI 0 from c121))), if_neg cz, if_neg (by omega), e1]) e2 e3 e4 ek)
          · skip
            refine V_goto (tgt := 110) dX7_readRun_139 (by decide) ?_
            refine ih (i + 1) a2 S2 (by omega) (by omega) (ek.t hn) e2 e3 e4 e5 (by rw [ek.c5]; exact hby) (fun f pl S3 q1 q2 q3 q4 qk => ?_) (fun l S3 q1 q2 q3 q4 q5 q6 q7 qk => ?_)
            · rw [ek.c5] at q1
              exact h0 f pl S3 (by rw [pPs, if_pos (Or.inl ((nI_eq (by omega) (by decide)).mp (show nI i = nI 0 from c121))), if_neg cz, if_neg (by omega), e1]; show (match pPs (S 5) n k (i + 1) a2 with | .inl e => _ | .inr m => _) = _; rw [q1]) q2 q3 q4 (ek.tr qk)
            · rw [ek.c5] at q1
              exact h1 ((pSo (pBy (S 5) n a), pv, pl, pr) :: l) S3 (by rw [pPs, if_pos (Or.inl ((nI_eq (by omega) (by decide)).mp (show nI i = nI 0 from c121))), if_neg cz, if_neg (by omega), e1]; show (match pPs (S 5) n k (i + 1) a2 with | .inl e => _ | .inr m => _) = _; rw [q1]) q2 (by rw [q3, List.length_cons]; congr 1; omega) (q4.trans e6) (q5.trans e7) (by rw [q6, e8]; rfl) (by rw [q7, e9]; rfl) (ek.tr qk)
        · skip
          refine V_ald0 dX7_readRun_124 ?_
          refine V_getIr dX7_readRun_125 flX7_100 (hM.1 0 (0, 7) rfl) ?_
          refine V_eqI ha ?_
          refine V_ald0 dX7_readRun_128 ?_
          refine V_getIr dX7_readRun_129 flX7_96 (hM.1 0 (0, 7) rfl) ?_
          refine V_eqI hn ?_
          refine V_icmpgeN (tgt := 142) dX7_readRun_132 (by decide) (by omega) (by omega) (fun c132 => ?_) (fun c132 => ?_)
          · skip
            refine V_return dX7_readRun_142 rfl ?_
            exact h1 [] S (by rw [pPs, if_neg (fun h => h.elim (fun e => c121 (by rw [e]; rfl)) (fun e => e (by unfold pBy; rw [if_neg (by omega)])))]) hw hi rfl rfl rfl rfl (rKeep.rf S)
          · skip
            refine V_ald0 dX7_readRun_135 ?_
            refine V_iv0 dX7_readRun_136 wlX7_142 mdX7_readPiece miX7_readPiece rfl (hM.1 0 (0, 7) rfl) rfl rfl (kX7_readPiece hM hn hn2 ha ha2 hw hi hi8 (fun cz => ⟨rfl, ?_⟩) (fun cz c8 => ⟨rfl, ?_⟩) (fun cz c8 f pl S2 e1 e2 e3 e4 ek => ⟨rfl, ?_⟩) (fun cz c8 pv pl pr a2 S2 e1 e2 e3 e4 e5 e6 e7 e8 e9 ek => ⟨rfl, ?_⟩))
            · skip
              refine V_goto (tgt := 110) dX7_readRun_139 (by decide) ?_
              exact xW110 hM (show ¬ nI 1 = 0 by decide) (h0 1 a _ (by rw [pPs, if_pos (Or.inr (fun e => absurd e (hby a (by omega)))), if_pos cz]) rfl (by decide) rfl (((rKeep.rf S).e (by decide) _).e (by decide) _))
            · skip
              refine V_goto (tgt := 110) dX7_readRun_139 (by decide) ?_
              exact xW110 hM (show ¬ nI 3 = 0 by decide) (h0 3 a _ (by rw [pPs, if_pos (Or.inr (fun e => absurd e (hby a (by omega)))), if_neg cz, if_pos c8]) rfl (by decide) rfl (((rKeep.rf S).e (by decide) _).e (by decide) _))
            · skip
              refine V_goto (tgt := 110) dX7_readRun_139 (by decide) ?_
              exact xW110 hM (by rw [e2]; exact e3) (h0 f pl S2 (by rw [pPs, if_pos (Or.inr (fun e => absurd e (hby a (by omega)))), if_neg cz, if_neg (by omega), e1]) e2 e3 e4 ek)
            · skip
              refine V_goto (tgt := 110) dX7_readRun_139 (by decide) ?_
              refine ih (i + 1) a2 S2 (by omega) (by omega) (ek.t hn) e2 e3 e4 e5 (by rw [ek.c5]; exact hby) (fun f pl S3 q1 q2 q3 q4 qk => ?_) (fun l S3 q1 q2 q3 q4 q5 q6 q7 qk => ?_)
              · rw [ek.c5] at q1
                exact h0 f pl S3 (by rw [pPs, if_pos (Or.inr (fun e => absurd e (hby a (by omega)))), if_neg cz, if_neg (by omega), e1]; show (match pPs (S 5) n k (i + 1) a2 with | .inl e => _ | .inr m => _) = _; rw [q1]) q2 q3 q4 (ek.tr qk)
              · rw [ek.c5] at q1
                exact h1 ((pSo (pBy (S 5) n a), pv, pl, pr) :: l) S3 (by rw [pPs, if_pos (Or.inr (fun e => absurd e (hby a (by omega)))), if_neg cz, if_neg (by omega), e1]; show (match pPs (S 5) n k (i + 1) a2 with | .inl e => _ | .inr m => _) = _; rw [q1]) q2 (by rw [q3, List.length_cons]; congr 1; omega) (q4.trans e6) (q5.trans e7) (by rw [q6, e8]; rfl) (by rw [q7, e9]; rfl) (ek.tr qk)
end KM
