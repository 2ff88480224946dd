section KC
variable {d : Nat} {b : Nat × Nat} {Y : xY} {G : xG} {N : xM} {R U A S T : xT} {Q : Option xAV → xY → xG → xM → Prop}
theorem nI_neg1 {k : Nat} (h : k < 2 ^ 31) : ¬ (-1 : Int32) = nI k := by
  intro e
  have := nI_toInt h
  rw [← e] at this
  have e2 : (-1 : Int32).toInt = -1 := by decide
  omega
theorem pBy_lt {b : Nat → Int32} {n a k : Nat} (hk : k < 2 ^ 31) (h : pBy b n a = nI k) : a < n := by
  unfold pBy at h
  by_cases c : a < n
  · exact c
  · rw [if_neg c] at h; exact absurd h (nI_neg1 hk)
theorem pFg_lt {b : Nat → Int32} {n a : Nat} (h : pFg b n a) : a < n := by
  by_cases c : a < n
  · exact c
  · exfalso
    have h1 := h.1
    unfold pBy at h1
    rw [if_neg c] at h1
    exact h1 (by decide)
theorem pN_le {b : Nat → Int32} {n a a2 : Nat} {v : Int32} (h : pN b n a = some (v, a2)) : a < a2 ∧ a2 ≤ n := by
  unfold pN at h
  by_cases c1 : pFg b n a
  · rw [if_pos c1] at h
    have h1 := pFg_lt c1
    by_cases c2 : pFg b n (a + 1)
    · rw [if_pos c2] at h
      have h2 := pFg_lt c2
      by_cases c3 : pFg b n (a + 2)
      · rw [if_pos c3] at h; cases h
      · rw [if_neg c3] at h; cases h; omega
    · rw [if_neg c2] at h; cases h; omega
  · rw [if_neg c1] at h; cases h
/-- a number, as the text asks for it -/
def pNm (b : Nat → Int32) (n : Nat) (lo hi : Int32) (a : Nat) : Nat ⊕ (Int32 × Nat) := match pN b n a with
  | none => .inl 1
  | some (v, a2) => if v < lo ∨ hi < v then .inl 2 else .inr (v, a2)
def pMar (b : Nat → Int32) (n a : Nat) : (Nat × Nat) ⊕ (Int32 × Int32 × Nat) :=
  if pBy b n a = nI 109 then match pNm b n (nI 1) (nI 9) (a + 1) with
    | .inl f => .inl (f, a + 1)
    | .inr (w, a2) => if pBy b n a2 = nI 44 then (match pNm b n (nI 0) (nI 20) (a2 + 1) with
        | .inl f => .inl (f, a2 + 1)
        | .inr (s, a3) => if pBy b n a3 = nI 59 then .inr (w, s, a3 + 1) else .inl (1, a3)) else .inl (1, a2)
  else .inl (1, a)
def uOK (U U' : xT) : Prop := U' 1 = U 1 ∧ U' 0 1 = U 0 1
theorem uOK.rf {U : xT} : uOK U U := ⟨rfl, rfl⟩
def tM (T : xT) (m : Nat) (w s : Int32) : xT := va_up (va_up T 6 (upd (T 6) m w)) 7 (upd (va_up T 6 (upd (T 6) m w) 7) m s)
theorem kX4_num {own : String} {d : Nat} (hS : xSt Y G) {n : Nat} (hn : U 0 1 = nI n) (hn2 : n ≤ 110) {a : Nat} (ha : U 0 2 = nI a) (ha2 : a ≤ 110) {lo hi : Int32}
    (h0 : ∀ f U', pNm (U 1) n lo hi a = .inl f → uOK U U' → U' 0 2 = nI a → U' 0 4 = nI f → Q (some (xI 0)) Y G (va_up N 2 U')) (h1 : ∀ v a2, pNm (U 1) n lo hi a = .inr (v, a2) → a < a2 ∧ a2 ≤ n → Q (some (xI 1)) Y G (va_up N 2 (uA (uV U v) a2))) :
    V RX4 false cX4_takeNumber 5 (some .boolean) none (d + 2) b 0 [some (xR 2 0), some (xI lo), some (xI hi), none, none] [] Y G (va_up N 2 U) Q := by
  refine kX4_takeNumber hS hn hn2 ha ha2 (fun e => ?_) (fun v a2 e c => ?_) (fun v a2 e c1 c2 => ?_)
  · exact h0 1 _ (by rw [pNm, e]) ⟨rfl, rfl⟩ ha rfl
  · exact h0 2 _ (by rw [pNm, e]; exact if_pos c) ⟨rfl, rfl⟩ ha rfl
  · exact h1 v a2 (by rw [pNm, e]; exact if_neg (fun h => h.elim c1 c2)) (pN_le e)
theorem kX4_readMarble (hS : xSt Y G) {n : Nat} (hn : U 0 1 = nI n) (hn2 : n ≤ 110) {a : Nat} (ha : U 0 2 = nI a) (ha2 : a ≤ 110) {m : Nat} (hm : m < 6) (h0 : ∀ f pl U2 T2, pMar (U 1) n a = .inl (f, pl) → uOK U U2 → U2 0 2 = nI pl → U2 0 4 = nI f → Q (some (xI 0)) Y G (va_up (va_up N 4 T2) 2 U2)) (h1 : ∀ w s a2 U2, pMar (U 1) n a = .inr (w, s, a2) → uOK U U2 → U2 0 2 = nI a2 → a2 ≤ n → Q (some (xI 1)) Y G (va_up (va_up N 4 (tM T m w s)) 2 U2)) : V RX4 false cX4_readMarble 3 (some .boolean) none (d + 3) b 0 [some (xR 2 0), some (xR 4 0), some (xI (nI m))] [] Y G (va_up (va_up N 4 T) 2 U) Q := by
  refine V_ald0 dX4_readMarble_0 ?_
  refine V_bipush (v := nI 109) dX4_readMarble_1 (by decide) ?_
  refine V_iv1 dX4_readMarble_3 wlX4_43 mdX4_take miX4_take rfl (hS.r2.1 0 (0, 4) rfl) rfl rfl (kX4_take hS hn hn2 ha ha2 (fun e3 => ⟨rfl, ?_⟩) (fun e3 => ⟨rfl, ?_⟩))
  · skip
    replace e3 : pBy (U 1) n _ = _ := e3
    have l3 := pBy_lt (by decide) e3
    refine V_ifeq (tgt := 19) dX4_readMarble_6 (by decide) (fun c6 => absurd c6 (by decide)) (fun _ => ?_)
    refine V_ald0 dX4_readMarble_9 ?_
    refine V_iconst (v := nI 1) dX4_readMarble_10 (by decide) ?_
    refine V_bipush (v := nI 9) dX4_readMarble_11 (by decide) ?_
    refine V_iv2 dX4_readMarble_13 wlX4_47 mdX4_takeNumber miX4_takeNumber rfl (hS.r2.1 0 (0, 4) rfl) rfl rfl (kX4_num (own := RX4) hS (by exact hn) hn2 (by rfl) (by omega) (fun f U2 e13 u13 p13 q13 => ⟨rfl, ?_⟩) (fun v13 a13 e13 l13 => ⟨rfl, ?_⟩))
    · skip
      replace e13 : pNm (U 1) n _ _ _ = _ := e13
      refine V_ifne (tgt := 21) dX4_readMarble_16 (by decide) (fun c16 => absurd rfl c16) (fun _ => ?_)
      refine V_iconst (v := 0) dX4_readMarble_19 (by decide) ?_
      refine V_ireturn dX4_readMarble_20 ⟨_, rfl, xbool (by first | exact Or.inl rfl | exact Or.inr rfl | exact xite01 _)⟩ ?_
      exact h0 _ _ _ _ (by simp only [pMar, e3, e13, if_true, if_false]) ⟨u13.1, u13.2⟩ p13 q13
    · skip
      replace e13 : pNm (U 1) n _ _ _ = _ := e13
      refine V_ifne (tgt := 21) dX4_readMarble_16 (by decide) (fun _ => ?_) (fun c16 => absurd c16 (by decide))
      refine V_ald1 dX4_readMarble_21 ?_
      refine V_getR dX4_readMarble_22 flX4_68 ((hS.tr 4 rfl).1 0 (0, 5) rfl) (show G 4 0 5 = some (4, 6) from (hS.tr 4 rfl).2 5 (by decide) (by decide)) ?_
      refine V_ild2 dX4_readMarble_25 ?_
      refine V_ald0 dX4_readMarble_26 ?_
      refine V_getIr dX4_readMarble_27 flX4_22 (hS.r2.1 0 (0, 4) rfl) ?_
      refine V_iasq (by decide) dX4_readMarble_30 ((hS.tr 4 rfl).1 6 (1, 6) rfl) (by omega) (by decide) ?_
      refine V_ald0 dX4_readMarble_31 ?_
      refine V_bipush (v := nI 44) dX4_readMarble_32 (by decide) ?_
      refine V_iv1 dX4_readMarble_34 wlX4_43 mdX4_take miX4_take rfl (hS.r2.1 0 (0, 4) rfl) rfl rfl (kX4_take hS (by exact hn) hn2 (by rfl) (by omega) (fun e34 => ⟨rfl, ?_⟩) (fun e34 => ⟨rfl, ?_⟩))
      · skip
        replace e34 : pBy (U 1) n _ = _ := e34
        have l34 := pBy_lt (by decide) e34
        refine V_ifeq (tgt := 50) dX4_readMarble_37 (by decide) (fun c37 => absurd c37 (by decide)) (fun _ => ?_)
        refine V_ald0 dX4_readMarble_40 ?_
        refine V_iconst (v := nI 0) dX4_readMarble_41 (by decide) ?_
        refine V_bipush (v := nI 20) dX4_readMarble_42 (by decide) ?_
        refine V_iv2 dX4_readMarble_44 wlX4_47 mdX4_takeNumber miX4_takeNumber rfl (hS.r2.1 0 (0, 4) rfl) rfl rfl (kX4_num (own := RX4) hS (by exact hn) hn2 (by rfl) (by omega) (fun f U2 e44 u44 p44 q44 => ⟨rfl, ?_⟩) (fun v44 a44 e44 l44 => ⟨rfl, ?_⟩))
        · skip
          replace e44 : pNm (U 1) n _ _ _ = _ := e44
          refine V_ifne (tgt := 52) dX4_readMarble_47 (by decide) (fun c47 => absurd rfl c47) (fun _ => ?_)
          refine V_iconst (v := 0) dX4_readMarble_50 (by decide) ?_
          refine V_ireturn dX4_readMarble_51 ⟨_, rfl, xbool (by first | exact Or.inl rfl | exact Or.inr rfl | exact xite01 _)⟩ ?_
          exact h0 _ _ _ _ (by simp only [pMar, e3, e13, e34, e44, if_true, if_false]) ⟨u44.1, u44.2⟩ p44 q44
        · skip
          replace e44 : pNm (U 1) n _ _ _ = _ := e44
          refine V_ifne (tgt := 52) dX4_readMarble_47 (by decide) (fun _ => ?_) (fun c47 => absurd c47 (by decide))
          refine V_ald1 dX4_readMarble_52 ?_
          refine V_getR dX4_readMarble_53 flX4_71 ((hS.tr 4 rfl).1 0 (0, 5) rfl) (show G 4 0 6 = some (4, 7) from (hS.tr 4 rfl).2 6 (by decide) (by decide)) ?_
          refine V_ild2 dX4_readMarble_56 ?_
          refine V_ald0 dX4_readMarble_57 ?_
          refine V_getIr dX4_readMarble_58 flX4_22 (hS.r2.1 0 (0, 4) rfl) ?_
          refine V_iasq (by decide) dX4_readMarble_61 ((hS.tr 4 rfl).1 7 (1, 6) rfl) (by omega) (by decide) ?_
          refine V_ald0 dX4_readMarble_62 ?_
          refine V_bipush (v := nI 59) dX4_readMarble_63 (by decide) ?_
          refine V_iv1 dX4_readMarble_65 wlX4_43 mdX4_take miX4_take rfl (hS.r2.1 0 (0, 4) rfl) rfl rfl (kX4_take hS (by exact hn) hn2 (by rfl) (by omega) (fun e65 => ⟨rfl, ?_⟩) (fun e65 => ⟨rfl, ?_⟩))
          · skip
            replace e65 : pBy (U 1) n _ = _ := e65
            have l65 := pBy_lt (by decide) e65
            refine V_ireturn dX4_readMarble_68 ⟨_, rfl, xbool (by first | exact Or.inl rfl | exact Or.inr rfl | exact xite01 _)⟩ ?_
            exact h1 v13 v44 _ _ (by simp only [pMar, e3, e13, e34, e44, e65, if_true, if_false]) ⟨rfl, rfl⟩ rfl (by omega)
          · skip
            replace e65 : ¬ pBy (U 1) n _ = _ := e65
            refine V_ireturn dX4_readMarble_68 ⟨_, rfl, xbool (by first | exact Or.inl rfl | exact Or.inr rfl | exact xite01 _)⟩ ?_
            exact h0 _ _ _ _ (by simp only [pMar, e3, e13, e34, e44, e65, if_true, if_false]) ⟨rfl, rfl⟩ rfl rfl
      · skip
        replace e34 : ¬ pBy (U 1) n _ = _ := e34
        refine V_ifeq (tgt := 50) dX4_readMarble_37 (by decide) (fun _ => ?_) (fun c37 => absurd rfl c37)
        refine V_iconst (v := 0) dX4_readMarble_50 (by decide) ?_
        refine V_ireturn dX4_readMarble_51 ⟨_, rfl, xbool (by first | exact Or.inl rfl | exact Or.inr rfl | exact xite01 _)⟩ ?_
        exact h0 _ _ _ _ (by simp only [pMar, e3, e13, e34, if_true, if_false]) ⟨rfl, rfl⟩ rfl rfl
  · skip
    replace e3 : ¬ pBy (U 1) n _ = _ := e3
    refine V_ifeq (tgt := 19) dX4_readMarble_6 (by decide) (fun _ => ?_) (fun c6 => absurd rfl c6)
    refine V_iconst (v := 0) dX4_readMarble_19 (by decide) ?_
    refine V_ireturn dX4_readMarble_20 ⟨_, rfl, xbool (by first | exact Or.inl rfl | exact Or.inr rfl | exact xite01 _)⟩ ?_
    exact h0 _ _ _ _ (by simp only [pMar, e3, if_true, if_false]) ⟨rfl, rfl⟩ ha rfl
def pLaw (b : Nat → Int32) (n a : Nat) : (Nat × Nat) ⊕ (Int32 × Nat) :=
  if pBy b n a = nI 98 then match pNm b n (nI 1) (nI 9) (a + 1) with
    | .inl f => .inl (f, a + 1)
    | .inr (v, a2) => if pBy b n a2 = nI 59 then .inr (v, a2 + 1) else .inl (1, a2)
  else .inl (1, a)
def tBar (T : xT) (v : Int32) : xT := va_up T 0 (upd (T 0) 0 v)
theorem kX4_readLaw (hS : xSt Y G) {n : Nat} (hn : U 0 1 = nI n) (hn2 : n ≤ 110) {a : Nat} (ha : U 0 2 = nI a) (ha2 : a ≤ 110) (h0 : ∀ f pl U2 T2, pLaw (U 1) n a = .inl (f, pl) → uOK U U2 → U2 0 2 = nI pl → U2 0 4 = nI f → Q (some (xI 0)) Y G (va_up (va_up N 4 T2) 2 U2)) (h1 : ∀ v a2 U2, pLaw (U 1) n a = .inr (v, a2) → uOK U U2 → U2 0 2 = nI a2 → a2 ≤ n → Q (some (xI 1)) Y G (va_up (va_up N 4 (tBar T v)) 2 U2)) : V RX4 false cX4_readLaw 2 (some .boolean) none (d + 3) b 0 [some (xR 2 0), some (xR 4 0)] [] Y G (va_up (va_up N 4 T) 2 U) Q := by
  refine V_ald0 dX4_readLaw_0 ?_
  refine V_bipush (v := nI 98) dX4_readLaw_1 (by decide) ?_
  refine V_iv1 dX4_readLaw_3 wlX4_43 mdX4_take miX4_take rfl (hS.r2.1 0 (0, 4) rfl) rfl rfl (kX4_take hS hn hn2 ha ha2 (fun e3 => ⟨rfl, ?_⟩) (fun e3 => ⟨rfl, ?_⟩))
  · skip
    replace e3 : pBy (U 1) n _ = _ := e3
    have l3 := pBy_lt (by decide) e3
    refine V_ifeq (tgt := 19) dX4_readLaw_6 (by decide) (fun c6 => absurd c6 (by decide)) (fun _ => ?_)
    refine V_ald0 dX4_readLaw_9 ?_
    refine V_iconst (v := nI 1) dX4_readLaw_10 (by decide) ?_
    refine V_bipush (v := nI 9) dX4_readLaw_11 (by decide) ?_
    refine V_iv2 dX4_readLaw_13 wlX4_47 mdX4_takeNumber miX4_takeNumber rfl (hS.r2.1 0 (0, 4) rfl) rfl rfl (kX4_num (own := RX4) hS (by exact hn) hn2 (by rfl) (by omega) (fun f U2 e13 u13 p13 q13 => ⟨rfl, ?_⟩) (fun v13 a13 e13 l13 => ⟨rfl, ?_⟩))
    · skip
      replace e13 : pNm (U 1) n _ _ _ = _ := e13
      refine V_ifne (tgt := 21) dX4_readLaw_16 (by decide) (fun c16 => absurd rfl c16) (fun _ => ?_)
      refine V_iconst (v := 0) dX4_readLaw_19 (by decide) ?_
      refine V_ireturn dX4_readLaw_20 ⟨_, rfl, xbool (by first | exact Or.inl rfl | exact Or.inr rfl | exact xite01 _)⟩ ?_
      exact h0 _ _ _ _ (by simp only [pLaw, e3, e13, if_true, if_false]) ⟨u13.1, u13.2⟩ p13 q13
    · skip
      replace e13 : pNm (U 1) n _ _ _ = _ := e13
      refine V_ifne (tgt := 21) dX4_readLaw_16 (by decide) (fun _ => ?_) (fun c16 => absurd c16 (by decide))
      refine V_ald1 dX4_readLaw_21 ?_
      refine V_ald0 dX4_readLaw_22 ?_
      refine V_getIr dX4_readLaw_23 flX4_22 (hS.r2.1 0 (0, 4) rfl) ?_
      refine V_putIq (by decide) dX4_readLaw_26 fwX4_51 ((hS.tr 4 rfl).1 0 (0, 5) rfl) ?_
      refine V_ald0 dX4_readLaw_29 ?_
      refine V_bipush (v := nI 59) dX4_readLaw_30 (by decide) ?_
      refine V_iv1 dX4_readLaw_32 wlX4_43 mdX4_take miX4_take rfl (hS.r2.1 0 (0, 4) rfl) rfl rfl (kX4_take hS (by exact hn) hn2 (by rfl) (by omega) (fun e32 => ⟨rfl, ?_⟩) (fun e32 => ⟨rfl, ?_⟩))
      · skip
        replace e32 : pBy (U 1) n _ = _ := e32
        have l32 := pBy_lt (by decide) e32
        refine V_ireturn dX4_readLaw_35 ⟨_, rfl, xbool (by first | exact Or.inl rfl | exact Or.inr rfl | exact xite01 _)⟩ ?_
        exact h1 v13 _ _ (by simp only [pLaw, e3, e13, e32, if_true, if_false]) ⟨rfl, rfl⟩ rfl (by omega)
      · skip
        replace e32 : ¬ pBy (U 1) n _ = _ := e32
        refine V_ireturn dX4_readLaw_35 ⟨_, rfl, xbool (by first | exact Or.inl rfl | exact Or.inr rfl | exact xite01 _)⟩ ?_
        exact h0 _ _ _ _ (by simp only [pLaw, e3, e13, e32, if_true, if_false]) ⟨rfl, rfl⟩ rfl rfl
  · skip
    replace e3 : ¬ pBy (U 1) n _ = _ := e3
    refine V_ifeq (tgt := 19) dX4_readLaw_6 (by decide) (fun _ => ?_) (fun c6 => absurd rfl c6)
    refine V_iconst (v := 0) dX4_readLaw_19 (by decide) ?_
    refine V_ireturn dX4_readLaw_20 ⟨_, rfl, xbool (by first | exact Or.inl rfl | exact Or.inr rfl | exact xite01 _)⟩ ?_
    exact h0 _ _ _ _ (by simp only [pLaw, e3, if_true, if_false]) ⟨rfl, rfl⟩ ha rfl
def pPie (b : Nat → Int32) (n p a : Nat) : (Nat × Nat) ⊕ (Int32 × Int32 × Int32 × Nat) :=
  match pNm b n (nI 0) (nI 1) (a + 1) with
    | .inl f => .inl (f, a + 1)
    | .inr (v, a2) => if pBy b n a2 = nI 44 then (match pNm b n (nI (p + 1)) (nI 9) (a2 + 1) with
        | .inl f => .inl (f, a2 + 1)
        | .inr (l, a3) => if pBy b n a3 = nI 44 then (match pNm b n (nI (p + 1)) (nI 9) (a3 + 1) with
            | .inl f => .inl (f, a3 + 1)
            | .inr (r, a4) => if pBy b n a4 = nI 59 then .inr (v, l, r, a4 + 1) else .inl (1, a4)) else .inl (1, a3)) else .inl (1, a2)
def tP (T : xT) (p : Nat) (s v l r : Int32) : xT := va_up (va_up (va_up (va_up T 9 (upd (T 9) p s)) 10 (upd (T 10) p v)) 11 (upd (T 11) p l)) 12 (upd (T 12) p r)
theorem kX4_readPiece (hS : xSt Y G) {n : Nat} (hn : U 0 1 = nI n) (hn2 : n ≤ 110) {a : Nat} (ha : U 0 2 = nI a) (ha2 : a ≤ 110) (hal : a < n) {p : Nat} (hp : p < 8) (h0 : ∀ f pl U2 T2, pPie (U 1) n p a = .inl (f, pl) → uOK U U2 → U2 0 2 = nI pl → U2 0 4 = nI f → Q (some (xI 0)) Y G (va_up (va_up N 4 T2) 2 U2)) (h1 : ∀ v l r a2 U2, pPie (U 1) n p a = .inr (v, l, r, a2) → uOK U U2 → U2 0 2 = nI a2 → a2 ≤ n → Q (some (xI 1)) Y G (va_up (va_up N 4 (tP T p (pSo (pBy (U 1) n a)) v l r)) 2 U2)) : V RX4 false cX4_readPiece 3 (some .boolean) none (d + 3) b 0 [some (xR 2 0), some (xR 4 0), some (xI (nI p))] [] Y G (va_up (va_up N 4 T) 2 U) Q := by
  refine V_ald1 dX4_readPiece_0 ?_
  refine V_getR dX4_readPiece_1 flX4_84 ((hS.tr 4 rfl).1 0 (0, 5) rfl) (show G 4 0 8 = some (4, 9) from (hS.tr 4 rfl).2 8 (by decide) (by decide)) ?_
  refine V_ild2 dX4_readPiece_4 ?_
  refine V_ald0 dX4_readPiece_5 ?_
  refine V_iv0 dX4_readPiece_6 wlX4_54 mdX4_next miX4_next rfl (hS.r2.1 0 (0, 4) rfl) rfl rfl (kX4_next hS hn hn2 ha ha2 ⟨rfl, ?_⟩)
  refine V_is1 dX4_readPiece_9 wlX4_74 mdX4_sortOf msX4_sortOf rfl rfl (kX4_sortOf ⟨rfl, ?_⟩)
  refine V_iasq (by decide) dX4_readPiece_12 ((hS.tr 4 rfl).1 9 (1, 8) rfl) (by omega) (by decide) ?_
  refine V_ald0 dX4_readPiece_13 ?_
  refine V_dupR dX4_readPiece_14 ?_
  refine V_getIr dX4_readPiece_15 flX4_19 (hS.r2.1 0 (0, 4) rfl) ?_
  refine V_eqI (by exact ha) ?_
  refine V_iconst (v := nI 1) dX4_readPiece_18 (by decide) ?_
  refine V_iaddN dX4_readPiece_19 ?_
  refine V_putIr dX4_readPiece_20 fwX4_19 (hS.r2.1 0 (0, 4) rfl) ?_
  refine V_ald0 dX4_readPiece_23 ?_
  refine V_iconst (v := nI 0) dX4_readPiece_24 (by decide) ?_
  refine V_iconst (v := nI 1) dX4_readPiece_25 (by decide) ?_
  have l0 : a < n := hal
  refine V_iv2 dX4_readPiece_26 wlX4_47 mdX4_takeNumber miX4_takeNumber rfl (hS.r2.1 0 (0, 4) rfl) rfl rfl (kX4_num (own := RX4) hS (by exact hn) hn2 (by rfl) (by omega) (fun f U2 e26 u26 p26 q26 => ⟨rfl, ?_⟩) (fun v26 a26 e26 l26 => ⟨rfl, ?_⟩))
  · skip
    replace e26 : pNm (U 1) n _ _ _ = _ := e26
    refine V_ifne (tgt := 34) dX4_readPiece_29 (by decide) (fun c29 => absurd rfl c29) (fun _ => ?_)
    refine V_iconst (v := 0) dX4_readPiece_32 (by decide) ?_
    refine V_ireturn dX4_readPiece_33 ⟨_, rfl, xbool (by first | exact Or.inl rfl | exact Or.inr rfl | exact xite01 _)⟩ ?_
    exact h0 _ _ _ _ (by simp only [pPie, e26, if_true, if_false]) ⟨u26.1, u26.2⟩ p26 q26
  · skip
    replace e26 : pNm (U 1) n _ _ _ = _ := e26
    refine V_ifne (tgt := 34) dX4_readPiece_29 (by decide) (fun _ => ?_) (fun c29 => absurd c29 (by decide))
    refine V_ald1 dX4_readPiece_34 ?_
    refine V_getR dX4_readPiece_35 flX4_87 ((hS.tr 4 rfl).1 0 (0, 5) rfl) (show G 4 0 9 = some (4, 10) from (hS.tr 4 rfl).2 9 (by decide) (by decide)) ?_
    refine V_ild2 dX4_readPiece_38 ?_
    refine V_ald0 dX4_readPiece_39 ?_
    refine V_getIr dX4_readPiece_40 flX4_22 (hS.r2.1 0 (0, 4) rfl) ?_
    refine V_iasq (by decide) dX4_readPiece_43 ((hS.tr 4 rfl).1 10 (1, 8) rfl) (by omega) (by decide) ?_
    refine V_ald0 dX4_readPiece_44 ?_
    refine V_bipush (v := nI 44) dX4_readPiece_45 (by decide) ?_
    refine V_iv1 dX4_readPiece_47 wlX4_43 mdX4_take miX4_take rfl (hS.r2.1 0 (0, 4) rfl) rfl rfl (kX4_take hS (by exact hn) hn2 (by rfl) (by omega) (fun e47 => ⟨rfl, ?_⟩) (fun e47 => ⟨rfl, ?_⟩))
    · skip
      replace e47 : pBy (U 1) n _ = _ := e47
      have l47 := pBy_lt (by decide) e47
      refine V_ifeq (tgt := 65) dX4_readPiece_50 (by decide) (fun c50 => absurd c50 (by decide)) (fun _ => ?_)
      refine V_ald0 dX4_readPiece_53 ?_
      refine V_ild2 dX4_readPiece_54 ?_
      refine V_iconst (v := nI 1) dX4_readPiece_55 (by decide) ?_
      refine V_iaddN dX4_readPiece_56 ?_
      refine V_bipush (v := nI 9) dX4_readPiece_57 (by decide) ?_
      refine V_iv2 dX4_readPiece_59 wlX4_47 mdX4_takeNumber miX4_takeNumber rfl (hS.r2.1 0 (0, 4) rfl) rfl rfl (kX4_num (own := RX4) hS (by exact hn) hn2 (by rfl) (by omega) (fun f U2 e59 u59 p59 q59 => ⟨rfl, ?_⟩) (fun v59 a59 e59 l59 => ⟨rfl, ?_⟩))
      · skip
        replace e59 : pNm (U 1) n _ _ _ = _ := e59
        refine V_ifne (tgt := 67) dX4_readPiece_62 (by decide) (fun c62 => absurd rfl c62) (fun _ => ?_)
        refine V_iconst (v := 0) dX4_readPiece_65 (by decide) ?_
        refine V_ireturn dX4_readPiece_66 ⟨_, rfl, xbool (by first | exact Or.inl rfl | exact Or.inr rfl | exact xite01 _)⟩ ?_
        exact h0 _ _ _ _ (by simp only [pPie, e26, e47, e59, if_true, if_false]) ⟨u59.1, u59.2⟩ p59 q59
      · skip
        replace e59 : pNm (U 1) n _ _ _ = _ := e59
        refine V_ifne (tgt := 67) dX4_readPiece_62 (by decide) (fun _ => ?_) (fun c62 => absurd c62 (by decide))
        refine V_ald1 dX4_readPiece_67 ?_
        refine V_getR dX4_readPiece_68 flX4_90 ((hS.tr 4 rfl).1 0 (0, 5) rfl) (show G 4 0 10 = some (4, 11) from (hS.tr 4 rfl).2 10 (by decide) (by decide)) ?_
        refine V_ild2 dX4_readPiece_71 ?_
        refine V_ald0 dX4_readPiece_72 ?_
        refine V_getIr dX4_readPiece_73 flX4_22 (hS.r2.1 0 (0, 4) rfl) ?_
        refine V_iasq (by decide) dX4_readPiece_76 ((hS.tr 4 rfl).1 11 (1, 8) rfl) (by omega) (by decide) ?_
        refine V_ald0 dX4_readPiece_77 ?_
        refine V_bipush (v := nI 44) dX4_readPiece_78 (by decide) ?_
        refine V_iv1 dX4_readPiece_80 wlX4_43 mdX4_take miX4_take rfl (hS.r2.1 0 (0, 4) rfl) rfl rfl (kX4_take hS (by exact hn) hn2 (by rfl) (by omega) (fun e80 => ⟨rfl, ?_⟩) (fun e80 => ⟨rfl, ?_⟩))
        · skip
          replace e80 : pBy (U 1) n _ = _ := e80
          have l80 := pBy_lt (by decide) e80
          refine V_ifeq (tgt := 98) dX4_readPiece_83 (by decide) (fun c83 => absurd c83 (by decide)) (fun _ => ?_)
          refine V_ald0 dX4_readPiece_86 ?_
          refine V_ild2 dX4_readPiece_87 ?_
          refine V_iconst (v := nI 1) dX4_readPiece_88 (by decide) ?_
          refine V_iaddN dX4_readPiece_89 ?_
          refine V_bipush (v := nI 9) dX4_readPiece_90 (by decide) ?_
          refine V_iv2 dX4_readPiece_92 wlX4_47 mdX4_takeNumber miX4_takeNumber rfl (hS.r2.1 0 (0, 4) rfl) rfl rfl (kX4_num (own := RX4) hS (by exact hn) hn2 (by rfl) (by omega) (fun f U2 e92 u92 p92 q92 => ⟨rfl, ?_⟩) (fun v92 a92 e92 l92 => ⟨rfl, ?_⟩))
          · skip
            replace e92 : pNm (U 1) n _ _ _ = _ := e92
            refine V_ifne (tgt := 100) dX4_readPiece_95 (by decide) (fun c95 => absurd rfl c95) (fun _ => ?_)
            refine V_iconst (v := 0) dX4_readPiece_98 (by decide) ?_
            refine V_ireturn dX4_readPiece_99 ⟨_, rfl, xbool (by first | exact Or.inl rfl | exact Or.inr rfl | exact xite01 _)⟩ ?_
            exact h0 _ _ _ _ (by simp only [pPie, e26, e47, e59, e80, e92, if_true, if_false]) ⟨u92.1, u92.2⟩ p92 q92
          · skip
            replace e92 : pNm (U 1) n _ _ _ = _ := e92
            refine V_ifne (tgt := 100) dX4_readPiece_95 (by decide) (fun _ => ?_) (fun c95 => absurd c95 (by decide))
            refine V_ald1 dX4_readPiece_100 ?_
            refine V_getR dX4_readPiece_101 flX4_93 ((hS.tr 4 rfl).1 0 (0, 5) rfl) (show G 4 0 11 = some (4, 12) from (hS.tr 4 rfl).2 11 (by decide) (by decide)) ?_
            refine V_ild2 dX4_readPiece_104 ?_
            refine V_ald0 dX4_readPiece_105 ?_
            refine V_getIr dX4_readPiece_106 flX4_22 (hS.r2.1 0 (0, 4) rfl) ?_
            refine V_iasq (by decide) dX4_readPiece_109 ((hS.tr 4 rfl).1 12 (1, 8) rfl) (by omega) (by decide) ?_
            refine V_ald0 dX4_readPiece_110 ?_
            refine V_bipush (v := nI 59) dX4_readPiece_111 (by decide) ?_
            refine V_iv1 dX4_readPiece_113 wlX4_43 mdX4_take miX4_take rfl (hS.r2.1 0 (0, 4) rfl) rfl rfl (kX4_take hS (by exact hn) hn2 (by rfl) (by omega) (fun e113 => ⟨rfl, ?_⟩) (fun e113 => ⟨rfl, ?_⟩))
            · skip
              replace e113 : pBy (U 1) n _ = _ := e113
              have l113 := pBy_lt (by decide) e113
              refine V_ireturn dX4_readPiece_116 ⟨_, rfl, xbool (by first | exact Or.inl rfl | exact Or.inr rfl | exact xite01 _)⟩ ?_
              exact h1 v26 v59 v92 _ _ (by simp only [pPie, e26, e47, e59, e80, e92, e113, if_true, if_false]) ⟨rfl, rfl⟩ rfl (by omega)
            · skip
              replace e113 : ¬ pBy (U 1) n _ = _ := e113
              refine V_ireturn dX4_readPiece_116 ⟨_, rfl, xbool (by first | exact Or.inl rfl | exact Or.inr rfl | exact xite01 _)⟩ ?_
              exact h0 _ _ _ _ (by simp only [pPie, e26, e47, e59, e80, e92, e113, if_true, if_false]) ⟨rfl, rfl⟩ rfl rfl
        · skip
          replace e80 : ¬ pBy (U 1) n _ = _ := e80
          refine V_ifeq (tgt := 98) dX4_readPiece_83 (by decide) (fun _ => ?_) (fun c83 => absurd rfl c83)
          refine V_iconst (v := 0) dX4_readPiece_98 (by decide) ?_
          refine V_ireturn dX4_readPiece_99 ⟨_, rfl, xbool (by first | exact Or.inl rfl | exact Or.inr rfl | exact xite01 _)⟩ ?_
          exact h0 _ _ _ _ (by simp only [pPie, e26, e47, e59, e80, if_true, if_false]) ⟨rfl, rfl⟩ rfl rfl
    · skip
      replace e47 : ¬ pBy (U 1) n _ = _ := e47
      refine V_ifeq (tgt := 65) dX4_readPiece_50 (by decide) (fun _ => ?_) (fun c50 => absurd rfl c50)
      refine V_iconst (v := 0) dX4_readPiece_65 (by decide) ?_
      refine V_ireturn dX4_readPiece_66 ⟨_, rfl, xbool (by first | exact Or.inl rfl | exact Or.inr rfl | exact xite01 _)⟩ ?_
      exact h0 _ _ _ _ (by simp only [pPie, e26, e47, if_true, if_false]) ⟨rfl, rfl⟩ rfl rfl
end KC
