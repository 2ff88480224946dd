section KC
variable {d : Nat} {b : Nat × Nat} {Y : xY} {G : xG} {N : xM} {R U A S T : xT} {Q : Option xAV → xY → xG → xM → Prop}
def pMs (b : Nat → Int32) (n : Nat) : Nat → Nat → Nat → (Nat × Nat) ⊕ (List (Int32 × Int32) × Nat)
  | 0, _, a => .inr ([], a)
  | k + 1, i, a => if i = 0 ∨ pBy b n a = nI 109 then (if i = 6 then .inl (3, a) else match pMar b n a with
      | .inl e => .inl e
      | .inr (w, s, a2) => (match pMs b n k (i + 1) a2 with
          | .inl e => .inl e
          | .inr (l, a3) => .inr ((w, s) :: l, a3))) else .inr ([], a)
def tMb (T : xT) (k : Nat) : xT := va_up T 0 (upd (T 0) 2 (nI k))
def tMl : xT → Nat → List (Int32 × Int32) → xT
  | T, _, [] => T
  | T, i, q :: l => tMl (tMb (tM T i q.1 q.2) (i + 1)) (i + 1) l
def pPs (b : Nat → Int32) (n : Nat) : Nat → Nat → Nat → (Nat × Nat) ⊕ (List (Int32 × Int32 × Int32 × Int32))
  | 0, _, _ => .inr []
  | k + 1, i, a => if i = 0 ∨ ¬ pBy b n a = -1 then (if pSo (pBy b n a) = 0 then .inl (1, a) else if i = 8 then .inl (3, a) else match pPie b n i a with
      | .inl e => .inl e
      | .inr (v, l, r, a2) => (match pPs b n k (i + 1) a2 with
          | .inl e => .inl e
          | .inr m => .inr ((pSo (pBy b n a), v, l, r) :: m))) else .inr []
def tPb (T : xT) (k : Nat) : xT := va_up T 0 (upd (T 0) 3 (nI k))
def tPl : xT → Nat → List (Int32 × Int32 × Int32 × Int32) → xT
  | T, _, [] => T
  | T, i, q :: l => tPl (tPb (tP T i q.1 q.2.1 q.2.2.1 q.2.2.2) (i + 1)) (i + 1) l
theorem pSo_lt {b : Nat → Int32} {n a : Nat} (h : ¬ pSo (pBy b n a) = 0) : a < n := by
  by_cases c : a < n
  · exact c
  · exfalso
    apply h
    unfold pBy
    rw [if_neg c]
    decide
theorem uOK.tr {U V W : xT} (h : uOK U V) (h2 : uOK V W) : uOK U W := ⟨h2.1.trans h.1, h2.2.trans h.2⟩
theorem kX4_readMarbles (hS : xSt Y G) {n : Nat} (hn : U 0 1 = nI n) (hn2 : n ≤ 110) {a : Nat} (ha : U 0 2 = nI a) (ha3 : a ≤ n) (h0 : ∀ f pl U2 T2, pMs (U 1) n 7 0 a = .inl (f, pl) → uOK U U2 → U2 0 2 = nI pl → U2 0 4 = nI f → Q (some (xI 0)) Y G (va_up (va_up N 4 T2) 2 U2)) (h1 : ∀ l a2 U2, pMs (U 1) n 7 0 a = .inr (l, a2) → uOK U U2 → U2 0 2 = nI a2 → a2 ≤ n → Q (some (xI 1)) Y G (va_up (va_up N 4 (tMl T 0 l)) 2 U2)) : V RX4 false cX4_readMarbles 3 (some .boolean) none (d + 4) b 0 [some (xR 2 0), some (xR 4 0), none] [] Y G (va_up (va_up N 4 T) 2 U) Q := by
  refine V_iconst (v := nI 0) dX4_readMarbles_0 (by decide) ?_
  refine V_ist2 dX4_readMarbles_1 rfl ?_
  refine xDown (P := fun i => ∀ (a : Nat) (Z : xT) (T : xT), uOK U Z → Z 0 2 = nI a → a ≤ n → (∀ f pl U2 T2, pMs (U 1) n (7 - i) i a = .inl (f, pl) → uOK U U2 → U2 0 2 = nI pl → U2 0 4 = nI f → Q (some (xI 0)) Y G (va_up (va_up N 4 T2) 2 U2)) → (∀ l a2 U2, pMs (U 1) n (7 - i) i a = .inr (l, a2) → uOK U U2 → U2 0 2 = nI a2 → a2 ≤ n → Q (some (xI 1)) Y G (va_up (va_up N 4 (tMl T i l)) 2 U2)) → V RX4 false cX4_readMarbles 3 (some .boolean) none (d + 4) b 2 [some (xR 2 0), some (xR 4 0), some (xI (nI i))] [] Y G (va_up (va_up N 4 T) 2 Z) Q) 6 ?_ 0 (Nat.zero_le _) a U T uOK.rf ha ha3 h0 h1 
  intro i hii hni a Z T hu ha ha3 h0 h1
  refine V_ild2 dX4_readMarbles_2 ?_
  refine V_bipush (v := nI 6) dX4_readMarbles_3 (by decide) ?_
  refine V_icmpgtN (tgt := 57) dX4_readMarbles_5 (by decide) (by omega) (by omega) (fun c5 => ?_) (fun c5 => ?_)
  · exact absurd c5 (by omega)
  · skip
    refine V_ild2 dX4_readMarbles_8 ?_
    refine V_ifeq (tgt := 21) dX4_readMarbles_9 (by decide) (fun c9 => ?_) (fun c9 => ?_)
    · skip
      have hg : i = 0 ∨ pBy (U 1) n a = nI 109 := Or.inl (nI_inj (by omega) (by decide) c9)
      refine V_ild2 dX4_readMarbles_21 ?_
      refine V_bipush (v := nI 6) dX4_readMarbles_22 (by decide) ?_
      refine V_icmpneN (tgt := 33) dX4_readMarbles_24 (by decide) (by omega) (by omega) (fun c24 => ?_) (fun c24 => ?_)
      · skip
        refine V_ald0 dX4_readMarbles_33 ?_
        refine V_ald1 dX4_readMarbles_34 ?_
        refine V_ild2 dX4_readMarbles_35 ?_
        refine V_iv2 dX4_readMarbles_36 wlX4_61 mdX4_readMarble miX4_readMarble rfl (hS.r2.1 0 (0, 4) rfl) rfl rfl (kX4_readMarble hS (by rw [hu.2]; exact hn) hn2 ha (by omega) (by omega) (fun f pl U2 T2 e36 u36 p36 q36 => ⟨rfl, ?_⟩) (fun wt s a2 U2 e36 u36 p36 l36 => ⟨rfl, ?_⟩))
        · skip
          rw [hu.1] at e36
          refine V_ifne (tgt := 44) dX4_readMarbles_39 (by decide) (fun c39 => absurd rfl c39) (fun _ => ?_)
          refine V_iconst (v := 0) dX4_readMarbles_42 (by decide) ?_
          refine V_ireturn dX4_readMarbles_43 ⟨_, rfl, xbool (by first | exact Or.inl rfl | exact Or.inr rfl | exact xite01 _)⟩ ?_
          exact h0 f pl U2 T2 (by rw [show 7 - i = 7 - (i + 1) + 1 by omega, pMs, if_pos hg, if_neg c24, e36]) (hu.tr u36) p36 q36
        · skip
          rw [hu.1] at e36
          refine V_ifne (tgt := 44) dX4_readMarbles_39 (by decide) (fun _ => ?_) (fun c39 => absurd c39 (by decide))
          refine V_ald1 dX4_readMarbles_44 ?_
          refine V_ild2 dX4_readMarbles_45 ?_
          refine V_iconst (v := nI 1) dX4_readMarbles_46 (by decide) ?_
          refine V_iaddN dX4_readMarbles_47 ?_
          refine V_putIq (by decide) dX4_readMarbles_48 fwX4_65 ((hS.tr 4 rfl).1 0 (0, 5) rfl) ?_
          refine V_incN2 dX4_readMarbles_51 rfl ?_
          refine V_goto (tgt := 2) dX4_readMarbles_54 (by decide) ?_
          refine hni (by omega) a2 U2 _ (hu.tr u36) p36 l36 (fun f pl U3 T3 e => h0 f pl U3 T3 (by rw [show 7 - i = 7 - (i + 1) + 1 by omega, pMs, if_pos hg, if_neg c24, e36]; simp only [e])) (fun l a3 U3 e u p q => ?_)
          exact h1 ((wt, s) :: l) a3 U3 (by rw [show 7 - i = 7 - (i + 1) + 1 by omega, pMs, if_pos hg, if_neg c24, e36]; simp only [e]) u p q
      · skip
        refine V_ald0 dX4_readMarbles_27 ?_
        refine V_iconst (v := nI 3) dX4_readMarbles_28 (by decide) ?_
        refine V_iv1 dX4_readMarbles_29 wlX4_58 mdX4_fails miX4_fails rfl (hS.r2.1 0 (0, 4) rfl) rfl rfl (kX4_fails hS ⟨rfl, ?_⟩)
        refine V_ireturn dX4_readMarbles_32 ⟨_, rfl, xbool (by first | exact Or.inl rfl | exact Or.inr rfl | exact xite01 _)⟩ ?_
        exact h0 3 a _ _ (by rw [show 7 - i = 7 - (i + 1) + 1 by omega, pMs, if_pos hg, if_pos c24]) ⟨hu.1, hu.2⟩ ha rfl
    · skip
      have i0 : i ≠ 0 := fun e => c9 (by rw [e]; rfl)
      refine V_ald0 dX4_readMarbles_12 ?_
      refine V_iv0 dX4_readMarbles_13 wlX4_54 mdX4_next miX4_next rfl (hS.r2.1 0 (0, 4) rfl) rfl rfl (kX4_next hS (by rw [hu.2]; exact hn) hn2 ha (by omega) ⟨rfl, ?_⟩)
      rw [hu.1]
      refine V_bipush (v := nI 109) dX4_readMarbles_16 (by decide) ?_
      refine V_icmpne (tgt := 57) dX4_readMarbles_18 (by decide) (fun c18 => ?_) (fun c18 => ?_)
      · skip
        refine V_iconst (v := 1) dX4_readMarbles_57 (by decide) ?_
        refine V_ireturn dX4_readMarbles_58 ⟨_, rfl, xbool (by first | exact Or.inl rfl | exact Or.inr rfl | exact xite01 _)⟩ ?_
        exact h1 [] a Z (by rw [show 7 - i = 7 - (i + 1) + 1 by omega, pMs, if_neg (fun h => h.elim i0 c18)]) hu ha ha3
      · skip
        have hg : i = 0 ∨ pBy (U 1) n a = nI 109 := Or.inr c18
        refine V_ild2 dX4_readMarbles_21 ?_
        refine V_bipush (v := nI 6) dX4_readMarbles_22 (by decide) ?_
        refine V_icmpneN (tgt := 33) dX4_readMarbles_24 (by decide) (by omega) (by omega) (fun c24 => ?_) (fun c24 => ?_)
        · skip
          refine V_ald0 dX4_readMarbles_33 ?_
          refine V_ald1 dX4_readMarbles_34 ?_
          refine V_ild2 dX4_readMarbles_35 ?_
          refine V_iv2 dX4_readMarbles_36 wlX4_61 mdX4_readMarble miX4_readMarble rfl (hS.r2.1 0 (0, 4) rfl) rfl rfl (kX4_readMarble hS (by rw [hu.2]; exact hn) hn2 ha (by omega) (by omega) (fun f pl U2 T2 e36 u36 p36 q36 => ⟨rfl, ?_⟩) (fun wt s a2 U2 e36 u36 p36 l36 => ⟨rfl, ?_⟩))
          · skip
            rw [hu.1] at e36
            refine V_ifne (tgt := 44) dX4_readMarbles_39 (by decide) (fun c39 => absurd rfl c39) (fun _ => ?_)
            refine V_iconst (v := 0) dX4_readMarbles_42 (by decide) ?_
            refine V_ireturn dX4_readMarbles_43 ⟨_, rfl, xbool (by first | exact Or.inl rfl | exact Or.inr rfl | exact xite01 _)⟩ ?_
            exact h0 f pl U2 T2 (by rw [show 7 - i = 7 - (i + 1) + 1 by omega, pMs, if_pos hg, if_neg c24, e36]) (hu.tr u36) p36 q36
          · skip
            rw [hu.1] at e36
            refine V_ifne (tgt := 44) dX4_readMarbles_39 (by decide) (fun _ => ?_) (fun c39 => absurd c39 (by decide))
            refine V_ald1 dX4_readMarbles_44 ?_
            refine V_ild2 dX4_readMarbles_45 ?_
            refine V_iconst (v := nI 1) dX4_readMarbles_46 (by decide) ?_
            refine V_iaddN dX4_readMarbles_47 ?_
            refine V_putIq (by decide) dX4_readMarbles_48 fwX4_65 ((hS.tr 4 rfl).1 0 (0, 5) rfl) ?_
            refine V_incN2 dX4_readMarbles_51 rfl ?_
            refine V_goto (tgt := 2) dX4_readMarbles_54 (by decide) ?_
            refine hni (by omega) a2 U2 _ (hu.tr u36) p36 l36 (fun f pl U3 T3 e => h0 f pl U3 T3 (by rw [show 7 - i = 7 - (i + 1) + 1 by omega, pMs, if_pos hg, if_neg c24, e36]; simp only [e])) (fun l a3 U3 e u p q => ?_)
            exact h1 ((wt, s) :: l) a3 U3 (by rw [show 7 - i = 7 - (i + 1) + 1 by omega, pMs, if_pos hg, if_neg c24, e36]; simp only [e]) u p q
        · skip
          refine V_ald0 dX4_readMarbles_27 ?_
          refine V_iconst (v := nI 3) dX4_readMarbles_28 (by decide) ?_
          refine V_iv1 dX4_readMarbles_29 wlX4_58 mdX4_fails miX4_fails rfl (hS.r2.1 0 (0, 4) rfl) rfl rfl (kX4_fails hS ⟨rfl, ?_⟩)
          refine V_ireturn dX4_readMarbles_32 ⟨_, rfl, xbool (by first | exact Or.inl rfl | exact Or.inr rfl | exact xite01 _)⟩ ?_
          exact h0 3 a _ _ (by rw [show 7 - i = 7 - (i + 1) + 1 by omega, pMs, if_pos hg, if_pos c24]) ⟨hu.1, hu.2⟩ ha rfl
theorem kX4_readPieces (hS : xSt Y G) {n : Nat} (hn : U 0 1 = nI n) (hn2 : n ≤ 110) {a : Nat} (ha : U 0 2 = nI a) (ha3 : a ≤ n) (h0 : ∀ f pl U2 T2, pPs (U 1) n 9 0 a = .inl (f, pl) → uOK U U2 → U2 0 2 = nI pl → U2 0 4 = nI f → Q (some (xI 0)) Y G (va_up (va_up N 4 T2) 2 U2)) (h1 : ∀ l U2, pPs (U 1) n 9 0 a = .inr l → uOK U U2 → Q (some (xI 1)) Y G (va_up (va_up N 4 (tPl T 0 l)) 2 U2)) : V RX4 false cX4_readPieces 3 (some .boolean) none (d + 4) b 0 [some (xR 2 0), some (xR 4 0), none] [] Y G (va_up (va_up N 4 T) 2 U) Q := by
  refine V_iconst (v := nI 0) dX4_readPieces_0 (by decide) ?_
  refine V_ist2 dX4_readPieces_1 rfl ?_
  refine xDown (P := fun i => ∀ (a : Nat) (Z : xT) (T : xT), uOK U Z → Z 0 2 = nI a → a ≤ n → (∀ f pl U2 T2, pPs (U 1) n (9 - i) i a = .inl (f, pl) → uOK U U2 → U2 0 2 = nI pl → U2 0 4 = nI f → Q (some (xI 0)) Y G (va_up (va_up N 4 T2) 2 U2)) → (∀ l U2, pPs (U 1) n (9 - i) i a = .inr l → uOK U U2 → Q (some (xI 1)) Y G (va_up (va_up N 4 (tPl T i l)) 2 U2)) → V RX4 false cX4_readPieces 3 (some .boolean) none (d + 4) b 2 [some (xR 2 0), some (xR 4 0), some (xI (nI i))] [] Y G (va_up (va_up N 4 T) 2 Z) Q) 8 ?_ 0 (Nat.zero_le _) a U T uOK.rf ha ha3 h0 h1 
  intro i hii hni a Z T hu ha ha3 h0 h1
  refine V_ild2 dX4_readPieces_2 ?_
  refine V_bipush (v := nI 8) dX4_readPieces_3 (by decide) ?_
  refine V_icmpgtN (tgt := 72) dX4_readPieces_5 (by decide) (by omega) (by omega) (fun c5 => ?_) (fun c5 => ?_)
  · exact absurd c5 (by omega)
  · skip
    refine V_ild2 dX4_readPieces_8 ?_
    refine V_ifeq (tgt := 20) dX4_readPieces_9 (by decide) (fun c9 => ?_) (fun c9 => ?_)
    · skip
      have hg : i = 0 ∨ ¬ pBy (U 1) n a = -1 := Or.inl (nI_inj (by omega) (by decide) c9)
      refine V_ald0 dX4_readPieces_20 ?_
      refine V_iv0 dX4_readPieces_21 wlX4_54 mdX4_next miX4_next rfl (hS.r2.1 0 (0, 4) rfl) rfl rfl (kX4_next hS (by rw [hu.2]; exact hn) hn2 ha (by omega) ⟨rfl, ?_⟩)
      rw [hu.1]
      refine V_is1 dX4_readPieces_24 wlX4_74 mdX4_sortOf msX4_sortOf rfl rfl (kX4_sortOf ⟨rfl, ?_⟩)
      refine V_ifne (tgt := 36) dX4_readPieces_27 (by decide) (fun c27 => ?_) (fun c27 => ?_)
      · skip
        refine V_ild2 dX4_readPieces_36 ?_
        refine V_bipush (v := nI 8) dX4_readPieces_37 (by decide) ?_
        refine V_icmpneN (tgt := 48) dX4_readPieces_39 (by decide) (by omega) (by omega) (fun c39 => ?_) (fun c39 => ?_)
        · skip
          rw [← hu.1] at c27
          refine V_ald0 dX4_readPieces_48 ?_
          refine V_ald1 dX4_readPieces_49 ?_
          refine V_ild2 dX4_readPieces_50 ?_
          refine V_iv2 dX4_readPieces_51 wlX4_78 mdX4_readPiece miX4_readPiece rfl (hS.r2.1 0 (0, 4) rfl) rfl rfl (kX4_readPiece hS (by rw [hu.2]; exact hn) hn2 ha (by omega) (pSo_lt c27) (by omega) (fun f pl U2 T2 e51 u51 p51 q51 => ⟨rfl, ?_⟩) (fun v l r a2 U2 e51 u51 p51 l51 => ⟨rfl, ?_⟩))
          · skip
            rw [hu.1] at e51
            refine V_ifne (tgt := 59) dX4_readPieces_54 (by decide) (fun c54 => absurd rfl c54) (fun _ => ?_)
            refine V_iconst (v := 0) dX4_readPieces_57 (by decide) ?_
            refine V_ireturn dX4_readPieces_58 ⟨_, rfl, xbool (by first | exact Or.inl rfl | exact Or.inr rfl | exact xite01 _)⟩ ?_
            rw [hu.1] at c27
            exact h0 f pl U2 T2 (by rw [show 9 - i = 9 - (i + 1) + 1 by omega, pPs, if_pos hg, if_neg c27, if_neg c39, e51]) (hu.tr u51) p51 q51
          · skip
            rw [hu.1] at e51
            rw [hu.1]
            refine V_ifne (tgt := 59) dX4_readPieces_54 (by decide) (fun _ => ?_) (fun c54 => absurd c54 (by decide))
            refine V_ald1 dX4_readPieces_59 ?_
            refine V_ild2 dX4_readPieces_60 ?_
            refine V_iconst (v := nI 1) dX4_readPieces_61 (by decide) ?_
            refine V_iaddN dX4_readPieces_62 ?_
            refine V_putIq (by decide) dX4_readPieces_63 fwX4_81 ((hS.tr 4 rfl).1 0 (0, 5) rfl) ?_
            refine V_incN2 dX4_readPieces_66 rfl ?_
            refine V_goto (tgt := 2) dX4_readPieces_69 (by decide) ?_
            rw [hu.1] at c27
            refine hni (by omega) a2 U2 _ (hu.tr u51) p51 l51 (fun f pl U3 T3 e => h0 f pl U3 T3 (by rw [show 9 - i = 9 - (i + 1) + 1 by omega, pPs, if_pos hg, if_neg c27, if_neg c39, e51]; simp only [e])) (fun m U3 e u => ?_)
            exact h1 ((pSo (pBy (U 1) n a), v, l, r) :: m) U3 (by rw [show 9 - i = 9 - (i + 1) + 1 by omega, pPs, if_pos hg, if_neg c27, if_neg c39, e51]; simp only [e]) u
        · skip
          refine V_ald0 dX4_readPieces_42 ?_
          refine V_iconst (v := nI 3) dX4_readPieces_43 (by decide) ?_
          refine V_iv1 dX4_readPieces_44 wlX4_58 mdX4_fails miX4_fails rfl (hS.r2.1 0 (0, 4) rfl) rfl rfl (kX4_fails hS ⟨rfl, ?_⟩)
          refine V_ireturn dX4_readPieces_47 ⟨_, rfl, xbool (by first | exact Or.inl rfl | exact Or.inr rfl | exact xite01 _)⟩ ?_
          exact h0 3 a _ _ (by rw [show 9 - i = 9 - (i + 1) + 1 by omega, pPs, if_pos hg, if_neg c27, if_pos c39]) ⟨hu.1, hu.2⟩ ha rfl
      · skip
        refine V_ald0 dX4_readPieces_30 ?_
        refine V_iconst (v := nI 1) dX4_readPieces_31 (by decide) ?_
        refine V_iv1 dX4_readPieces_32 wlX4_58 mdX4_fails miX4_fails rfl (hS.r2.1 0 (0, 4) rfl) rfl rfl (kX4_fails hS ⟨rfl, ?_⟩)
        refine V_ireturn dX4_readPieces_35 ⟨_, rfl, xbool (by first | exact Or.inl rfl | exact Or.inr rfl | exact xite01 _)⟩ ?_
        exact h0 1 a _ _ (by rw [show 9 - i = 9 - (i + 1) + 1 by omega, pPs, if_pos hg, if_pos c27]) ⟨hu.1, hu.2⟩ ha rfl
    · skip
      have i0 : i ≠ 0 := fun e => c9 (by rw [e]; rfl)
      refine V_ald0 dX4_readPieces_12 ?_
      refine V_iv0 dX4_readPieces_13 wlX4_54 mdX4_next miX4_next rfl (hS.r2.1 0 (0, 4) rfl) rfl rfl (kX4_next hS (by rw [hu.2]; exact hn) hn2 ha (by omega) ⟨rfl, ?_⟩)
      rw [hu.1]
      refine V_iconst (v := (-1)) dX4_readPieces_16 (by decide) ?_
      refine V_icmpeq (tgt := 72) dX4_readPieces_17 (by decide) (fun c17 => ?_) (fun c17 => ?_)
      · skip
        refine V_iconst (v := 1) dX4_readPieces_72 (by decide) ?_
        refine V_ireturn dX4_readPieces_73 ⟨_, rfl, xbool (by first | exact Or.inl rfl | exact Or.inr rfl | exact xite01 _)⟩ ?_
        exact h1 [] Z (by rw [show 9 - i = 9 - (i + 1) + 1 by omega, pPs, if_neg (fun h => h.elim i0 (fun h => h c17))]) hu
      · skip
        have hg : i = 0 ∨ ¬ pBy (U 1) n a = -1 := Or.inr c17
        refine V_ald0 dX4_readPieces_20 ?_
        refine V_iv0 dX4_readPieces_21 wlX4_54 mdX4_next miX4_next rfl (hS.r2.1 0 (0, 4) rfl) rfl rfl (kX4_next hS (by rw [hu.2]; exact hn) hn2 ha (by omega) ⟨rfl, ?_⟩)
        rw [hu.1]
        refine V_is1 dX4_readPieces_24 wlX4_74 mdX4_sortOf msX4_sortOf rfl rfl (kX4_sortOf ⟨rfl, ?_⟩)
        refine V_ifne (tgt := 36) dX4_readPieces_27 (by decide) (fun c27 => ?_) (fun c27 => ?_)
        · skip
          refine V_ild2 dX4_readPieces_36 ?_
          refine V_bipush (v := nI 8) dX4_readPieces_37 (by decide) ?_
          refine V_icmpneN (tgt := 48) dX4_readPieces_39 (by decide) (by omega) (by omega) (fun c39 => ?_) (fun c39 => ?_)
          · skip
            rw [← hu.1] at c27
            refine V_ald0 dX4_readPieces_48 ?_
            refine V_ald1 dX4_readPieces_49 ?_
            refine V_ild2 dX4_readPieces_50 ?_
            refine V_iv2 dX4_readPieces_51 wlX4_78 mdX4_readPiece miX4_readPiece rfl (hS.r2.1 0 (0, 4) rfl) rfl rfl (kX4_readPiece hS (by rw [hu.2]; exact hn) hn2 ha (by omega) (pSo_lt c27) (by omega) (fun f pl U2 T2 e51 u51 p51 q51 => ⟨rfl, ?_⟩) (fun v l r a2 U2 e51 u51 p51 l51 => ⟨rfl, ?_⟩))
            · skip
              rw [hu.1] at e51
              refine V_ifne (tgt := 59) dX4_readPieces_54 (by decide) (fun c54 => absurd rfl c54) (fun _ => ?_)
              refine V_iconst (v := 0) dX4_readPieces_57 (by decide) ?_
              refine V_ireturn dX4_readPieces_58 ⟨_, rfl, xbool (by first | exact Or.inl rfl | exact Or.inr rfl | exact xite01 _)⟩ ?_
              rw [hu.1] at c27
              exact h0 f pl U2 T2 (by rw [show 9 - i = 9 - (i + 1) + 1 by omega, pPs, if_pos hg, if_neg c27, if_neg c39, e51]) (hu.tr u51) p51 q51
            · skip
              rw [hu.1] at e51
              rw [hu.1]
              refine V_ifne (tgt := 59) dX4_readPieces_54 (by decide) (fun _ => ?_) (fun c54 => absurd c54 (by decide))
              refine V_ald1 dX4_readPieces_59 ?_
              refine V_ild2 dX4_readPieces_60 ?_
              refine V_iconst (v := nI 1) dX4_readPieces_61 (by decide) ?_
              refine V_iaddN dX4_readPieces_62 ?_
              refine V_putIq (by decide) dX4_readPieces_63 fwX4_81 ((hS.tr 4 rfl).1 0 (0, 5) rfl) ?_
              refine V_incN2 dX4_readPieces_66 rfl ?_
              refine V_goto (tgt := 2) dX4_readPieces_69 (by decide) ?_
              rw [hu.1] at c27
              refine hni (by omega) a2 U2 _ (hu.tr u51) p51 l51 (fun f pl U3 T3 e => h0 f pl U3 T3 (by rw [show 9 - i = 9 - (i + 1) + 1 by omega, pPs, if_pos hg, if_neg c27, if_neg c39, e51]; simp only [e])) (fun m U3 e u => ?_)
              exact h1 ((pSo (pBy (U 1) n a), v, l, r) :: m) U3 (by rw [show 9 - i = 9 - (i + 1) + 1 by omega, pPs, if_pos hg, if_neg c27, if_neg c39, e51]; simp only [e]) u
          · skip
            refine V_ald0 dX4_readPieces_42 ?_
            refine V_iconst (v := nI 3) dX4_readPieces_43 (by decide) ?_
            refine V_iv1 dX4_readPieces_44 wlX4_58 mdX4_fails miX4_fails rfl (hS.r2.1 0 (0, 4) rfl) rfl rfl (kX4_fails hS ⟨rfl, ?_⟩)
            refine V_ireturn dX4_readPieces_47 ⟨_, rfl, xbool (by first | exact Or.inl rfl | exact Or.inr rfl | exact xite01 _)⟩ ?_
            exact h0 3 a _ _ (by rw [show 9 - i = 9 - (i + 1) + 1 by omega, pPs, if_pos hg, if_neg c27, if_pos c39]) ⟨hu.1, hu.2⟩ ha rfl
        · skip
          refine V_ald0 dX4_readPieces_30 ?_
          refine V_iconst (v := nI 1) dX4_readPieces_31 (by decide) ?_
          refine V_iv1 dX4_readPieces_32 wlX4_58 mdX4_fails miX4_fails rfl (hS.r2.1 0 (0, 4) rfl) rfl rfl (kX4_fails hS ⟨rfl, ?_⟩)
          refine V_ireturn dX4_readPieces_35 ⟨_, rfl, xbool (by first | exact Or.inl rfl | exact Or.inr rfl | exact xite01 _)⟩ ?_
          exact h0 1 a _ _ (by rw [show 9 - i = 9 - (i + 1) + 1 by omega, pPs, if_pos hg, if_pos c27]) ⟨hu.1, hu.2⟩ ha rfl
def pRun (b : Nat → Int32) (n : Nat) : (Nat × Nat) ⊕ (Int32 × List (Int32 × Int32) × List (Int32 × Int32 × Int32 × Int32)) :=
  match pLaw b n 0 with
  | .inl e => .inl e
  | .inr (v, a) => match pMs b n 7 0 a with
    | .inl e => .inl e
    | .inr (ms, a2) => match pPs b n 9 0 a2 with
      | .inl e => .inl e
      | .inr ps => .inr (v, ms, ps)
theorem kX4_readInto (hS : xSt Y G) {n : Nat} (hn : U 0 1 = nI n) (hn2 : n ≤ 110) (h0 : ∀ f pl U2 T2, pRun (U 1) n = .inl (f, pl) → uOK U U2 → U2 0 2 = nI pl → U2 0 4 = nI f → Q (some (xI 0)) Y G (va_up (va_up N 4 T2) 2 U2)) (h1 : ∀ v ms ps U2, pRun (U 1) n = .inr (v, ms, ps) → uOK U U2 → Q (some (xI 1)) Y G (va_up (va_up N 4 (tPl (tMl (tBar (tClear T) v) 0 ms) 0 ps)) 2 U2)) : V RX4 false cX4_readInto 2 (some .boolean) none (d + 5) b 0 [some (xR 2 0), some (xR 4 0)] [] Y G (va_up (va_up N 4 T) 2 U) Q := by
  refine V_ald0 dX4_readInto_0 ?_
  refine V_iconst (v := nI 0) dX4_readInto_1 (by decide) ?_
  refine V_putIr dX4_readInto_2 fwX4_19 (hS.r2.1 0 (0, 4) rfl) ?_
  refine V_ald0 dX4_readInto_5 ?_
  refine V_iconst (v := nI 0) dX4_readInto_6 (by decide) ?_
  refine V_putIr dX4_readInto_7 fwX4_25 (hS.r2.1 0 (0, 4) rfl) ?_
  refine V_ald1 dX4_readInto_10 ?_
  refine V_comm (by decide) ?_
  refine V_iv0 dX4_readInto_11 wlX4_28 mdX5_clear miX5_clear rfl ((hS.tr 4 rfl).1 0 (0, 5) rfl) rfl rfl (kX5_clear (hS.tr 4 rfl) ⟨rfl, ?_⟩)
  refine V_comm (by decide) ?_
  refine V_ald0 dX4_readInto_14 ?_
  refine V_ald1 dX4_readInto_15 ?_
  refine V_iv1 dX4_readInto_16 wlX4_33 mdX4_readLaw miX4_readLaw rfl (hS.r2.1 0 (0, 4) rfl) rfl rfl (kX4_readLaw hS (by exact hn) hn2 (by rfl) (by omega) (fun f pl U2 T2 e16 u16 p16 q16 => ⟨rfl, ?_⟩) (fun v a2 U2 e16 u16 p16 l16 => ⟨rfl, ?_⟩))
  · skip
    replace e16 : pLaw (U 1) n 0 = _ := e16
    replace u16 : uOK U U2 := u16
    refine V_ifeq (tgt := 42) dX4_readInto_19 (by decide) (fun _ => ?_) (fun c19 => absurd rfl c19)
    refine V_iconst (v := 0) dX4_readInto_42 (by decide) ?_
    refine V_ireturn dX4_readInto_43 ⟨_, rfl, xbool (by first | exact Or.inl rfl | exact Or.inr rfl | exact xite01 _)⟩ ?_
    exact h0 f pl U2 T2 (by simp only [pRun, e16]) u16 p16 q16
  · skip
    replace e16 : pLaw (U 1) n 0 = _ := e16
    replace u16 : uOK U U2 := u16
    refine V_ifeq (tgt := 42) dX4_readInto_19 (by decide) (fun c19 => absurd c19 (by decide)) (fun _ => ?_)
    refine V_ald0 dX4_readInto_22 ?_
    refine V_ald1 dX4_readInto_23 ?_
    refine V_iv1 dX4_readInto_24 wlX4_37 mdX4_readMarbles miX4_readMarbles rfl (hS.r2.1 0 (0, 4) rfl) rfl rfl (kX4_readMarbles hS (by rw [u16.2]; exact hn) hn2 p16 l16 (fun f pl U3 T3 e24 u24 p24 q24 => ⟨rfl, ?_⟩) (fun ms a3 U3 e24 u24 p24 l24 => ⟨rfl, ?_⟩))
    · skip
      rw [u16.1] at e24
      refine V_ifeq (tgt := 42) dX4_readInto_27 (by decide) (fun _ => ?_) (fun c27 => absurd rfl c27)
      refine V_iconst (v := 0) dX4_readInto_42 (by decide) ?_
      refine V_ireturn dX4_readInto_43 ⟨_, rfl, xbool (by first | exact Or.inl rfl | exact Or.inr rfl | exact xite01 _)⟩ ?_
      exact h0 f pl U3 T3 (by simp only [pRun, e16, e24]) (u16.tr u24) p24 q24
    · skip
      rw [u16.1] at e24
      refine V_ifeq (tgt := 42) dX4_readInto_27 (by decide) (fun c27 => absurd c27 (by decide)) (fun _ => ?_)
      refine V_ald0 dX4_readInto_30 ?_
      refine V_ald1 dX4_readInto_31 ?_
      refine V_iv1 dX4_readInto_32 wlX4_40 mdX4_readPieces miX4_readPieces rfl (hS.r2.1 0 (0, 4) rfl) rfl rfl (kX4_readPieces hS (by rw [u24.2, u16.2]; exact hn) hn2 p24 l24 (fun f pl U4 T4 e32 u32 p32 q32 => ⟨rfl, ?_⟩) (fun ps U4 e32 u32 => ⟨rfl, ?_⟩))
      · skip
        rw [u24.1, u16.1] at e32
        refine V_ifeq (tgt := 42) dX4_readInto_35 (by decide) (fun _ => ?_) (fun c35 => absurd rfl c35)
        refine V_iconst (v := 0) dX4_readInto_42 (by decide) ?_
        refine V_ireturn dX4_readInto_43 ⟨_, rfl, xbool (by first | exact Or.inl rfl | exact Or.inr rfl | exact xite01 _)⟩ ?_
        first | exact h0 f pl U4 T4 (by simp only [pRun, e16, e24, e32]) ((u16.tr u24).tr u32) p32 q32 | exact h1 v ms ps U4 (by simp only [pRun, e16, e24, e32]) ((u16.tr u24).tr u32)
      · skip
        rw [u24.1, u16.1] at e32
        refine V_ifeq (tgt := 42) dX4_readInto_35 (by decide) (fun c35 => absurd c35 (by decide)) (fun _ => ?_)
        refine V_iconst (v := 1) dX4_readInto_38 (by decide) ?_
        refine V_goto (tgt := 43) dX4_readInto_39 (by decide) ?_
        refine V_ireturn dX4_readInto_43 ⟨_, rfl, xbool (by first | exact Or.inl rfl | exact Or.inr rfl | exact xite01 _)⟩ ?_
        first | exact h0 f pl U4 T4 (by simp only [pRun, e16, e24, e32]) ((u16.tr u24).tr u32) p32 q32 | exact h1 v ms ps U4 (by simp only [pRun, e16, e24, e32]) ((u16.tr u24).tr u32)
end KC
