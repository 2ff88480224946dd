section KC
variable {d : Nat} {b : Nat × Nat} {Y : xY} {G : xG} {N : xM} {R U A S T : xT} {Q : Option xAV → xY → xG → xM → Prop}
def cIsK (kind : Int32) : Nat → Int32 → Int32
  | 0, _ => 0
  | n + 1, one => if one < 0 then 0 else if nI 6 ≤ one then 0 else if one = kind then 1 else cIsK kind n (xPar one.toNatClampNeg)
theorem kX1_isOfKind {one0 kind : Int32} (hQ : Q (some (xI (cIsK kind 6 one0))) Y G N) : V RX1 false cX1_isOfKind 4 (some .boolean) none d b 0 [some (xI one0), some (xI kind), none, none] [] Y G N Q := by
  refine V_ild0 dX1_isOfKind_0 ?_
  refine V_ist2 dX1_isOfKind_1 rfl ?_
  refine V_iconst (v := nI 0) dX1_isOfKind_2 (by decide) ?_
  refine V_ist3 dX1_isOfKind_3 rfl ?_
  refine xDown (P := fun k => ∀ one, Q (some (xI (cIsK kind (6 - k) one))) Y G N → V RX1 false cX1_isOfKind 4 (some .boolean) none d b 4 [some (xI one0), some (xI kind), some (xI one), some (xI (nI k))] [] Y G N Q) 6 ?_ 0 (Nat.zero_le _) _ hQ 
  intro k hik hnk one hq
  refine V_ild3 dX1_isOfKind_4 ?_
  refine V_getP dX1_isOfKind_5 wfX1_19 ?_
  refine V_plen dX1_isOfKind_8 ?_
  refine V_eqI (show (6 : Int32) = nI 6 by decide) ?_
  refine V_icmpgeN (tgt := 43) dX1_isOfKind_9 (by decide) (by omega) (by omega) (fun c9 => ?_) (fun c9 => ?_)
  · skip
    refine V_iconst (v := 0) dX1_isOfKind_43 (by decide) ?_
    refine V_ireturn dX1_isOfKind_44 ⟨_, rfl, xbool (by first | exact Or.inl rfl | exact Or.inr rfl | exact xite01 _)⟩ ?_
    rw [show 6 - k = 0 by omega, cIsK] at hq
    exact hq
  · skip
    refine V_ild2 dX1_isOfKind_12 ?_
    refine V_iflt (tgt := 43) dX1_isOfKind_13 (by decide) (fun c13 => ?_) (fun c13 => ?_)
    · skip
      refine V_iconst (v := 0) dX1_isOfKind_43 (by decide) ?_
      refine V_ireturn dX1_isOfKind_44 ⟨_, rfl, xbool (by first | exact Or.inl rfl | exact Or.inr rfl | exact xite01 _)⟩ ?_
      rw [show 6 - k = (6 - (k + 1)) + 1 by omega, cIsK, if_pos c13] at hq
      exact hq
    · skip
      refine V_ild2 dX1_isOfKind_16 ?_
      refine V_getP dX1_isOfKind_17 wfX1_19 ?_
      refine V_plen dX1_isOfKind_20 ?_
      refine V_eqI (show (6 : Int32) = nI 6 by decide) ?_
      refine V_icmpge (tgt := 43) dX1_isOfKind_21 (by decide) (fun c21 => ?_) (fun c21 => ?_)
      · skip
        refine V_iconst (v := 0) dX1_isOfKind_43 (by decide) ?_
        refine V_ireturn dX1_isOfKind_44 ⟨_, rfl, xbool (by first | exact Or.inl rfl | exact Or.inr rfl | exact xite01 _)⟩ ?_
        rw [show 6 - k = (6 - (k + 1)) + 1 by omega, cIsK, if_neg c13, if_pos c21] at hq
        exact hq
      · skip
        refine V_ild2 dX1_isOfKind_24 ?_
        refine V_ild1 dX1_isOfKind_25 ?_
        refine V_icmpne (tgt := 31) dX1_isOfKind_26 (by decide) (fun c26 => ?_) (fun c26 => ?_)
        · skip
          refine V_getP dX1_isOfKind_31 wfX1_19 ?_
          refine V_ild2 dX1_isOfKind_34 ?_
          refine V_pload dX1_isOfKind_35 (fun q => q.elim c13 (fun q => c21 (by
            rw [Int32.le_iff_toInt_le]
            have e6 : (nI 6).toInt = 6 := nI_toInt (by decide)
            have : (6 : Nat) ≤ one.toInt.toNat := q
            omega))) ?_
          refine V_ist2 dX1_isOfKind_36 rfl ?_
          refine V_incN3 dX1_isOfKind_37 rfl ?_
          refine V_goto (tgt := 4) dX1_isOfKind_40 (by decide) ?_
          rw [show 6 - k = (6 - (k + 1)) + 1 by omega, cIsK, if_neg c13, if_neg c21, if_neg c26] at hq
          exact hnk (by omega) _ hq
        · skip
          refine V_iconst (v := 1) dX1_isOfKind_29 (by decide) ?_
          refine V_ireturn dX1_isOfKind_30 ⟨_, rfl, xbool (by first | exact Or.inl rfl | exact Or.inr rfl | exact xite01 _)⟩ ?_
          rw [show 6 - k = (6 - (k + 1)) + 1 by omega, cIsK, if_neg c13, if_neg c21, if_pos c26] at hq
          exact hq
def cTrace (A : xT) (i : Int32) : Int32 := if i < 0 then -1000000 else if A 0 1 ≤ i then -1000000 else A 1 i.toNatClampNeg
theorem kX1_traceAt (hS : xSt Y G) {k : Nat} (hk : A 0 1 = nI k) (hk16 : k ≤ 16) {i : Int32} (hQ : Q (some (xI (cTrace A i))) Y G (va_up N 32 A)) : V RX1 false cX1_traceAt 2 (some .int) none d b 0 [some (xR 32 0), some (xI i)] [] Y G (va_up N 32 A) Q := by
  refine V_ild1 dX1_traceAt_0 ?_
  refine V_iflt (tgt := 21) dX1_traceAt_1 (by decide) (fun c1 => ?_) (fun c1 => ?_)
  · skip
    refine V_ldc dX1_traceAt_21 wkX1_22 ?_
    refine V_ireturn dX1_traceAt_23 ⟨_, rfl, vp_nar_int _⟩ ?_
    rw [cTrace, if_pos c1] at hQ
    exact hQ
  · skip
    refine V_ild1 dX1_traceAt_4 ?_
    refine V_ald0 dX1_traceAt_5 ?_
    refine V_getIr dX1_traceAt_6 flX1_15 (hS.r32.1 0 (0, 1) rfl) ?_
    refine V_icmpge (tgt := 21) dX1_traceAt_9 (by decide) (fun c9 => ?_) (fun c9 => ?_)
    · skip
      refine V_ldc dX1_traceAt_21 wkX1_22 ?_
      refine V_ireturn dX1_traceAt_23 ⟨_, rfl, vp_nar_int _⟩ ?_
      rw [cTrace, if_neg c1, if_pos c9] at hQ
      exact hQ
    · skip
      obtain ⟨j, hj, rfl⟩ := xIx c1 (by rw [← hk]; exact c9) (by omega)
      refine V_ald0 dX1_traceAt_12 ?_
      refine V_getR dX1_traceAt_13 flX1_11 (hS.r32.1 0 (0, 1) rfl) (hS.r32.2 0 (32, 1) rfl) ?_
      refine V_ild1 dX1_traceAt_16 ?_
      refine V_iar dX1_traceAt_17 (hS.r32.1 1 (1, 16) rfl) (by omega) (by decide) ?_
      refine V_goto (tgt := 23) dX1_traceAt_18 (by decide) ?_
      refine V_ireturn dX1_traceAt_23 ⟨_, rfl, vp_nar_int _⟩ ?_
      rw [cTrace, if_neg c1, if_neg c9, nI_clamp (by omega)] at hQ
      exact hQ
theorem kX1_emptyTrace (hS : xSt Y G) (hQ : Q none Y G (va_up N 32 (va_up A 0 (upd (A 0) 1 (nI 0))))) : V RX1 false cX1_emptyTrace 1 none none d b 0 [some (xR 32 0)] [] Y G (va_up N 32 A) Q := by
  refine V_ald0 dX1_emptyTrace_0 ?_
  refine V_iconst (v := nI 0) dX1_emptyTrace_1 (by decide) ?_
  refine V_putIr dX1_emptyTrace_2 fwX1_15 (hS.r32.1 0 (0, 1) rfl) ?_
  refine V_return dX1_emptyTrace_5 rfl ?_
  exact hQ
def cB1 (A : xT) (k : Nat) (v : Int32) : xT := va_up (va_up A 1 (upd (A 1) k v)) 0 (upd (va_up A 1 (upd (A 1) k v) 0) 1 (nI (k + 1)))
/-- the trace goes on by these -/
def cApp : xT → Nat → List Int32 → xT
  | A, _, [] => A
  | A, k, v :: l => cApp (cB1 A k v) (k + 1) l
theorem cB1_k (A : xT) (k : Nat) (v : Int32) : cB1 A k v 0 1 = nI (k + 1) := by unfold cB1; rw [va_up_eq, upd_eq]
theorem cApp_k : ∀ (l : List Int32) (A : xT) (k : Nat), A 0 1 = nI k → cApp A k l 0 1 = nI (k + l.length)
  | [], _, _, h => h
  | v :: l, A, k, _ => by
    rw [cApp, cApp_k l _ _ (cB1_k A k v), List.length_cons, show k + 1 + l.length = k + (l.length + 1) by omega]
theorem cApp_app : ∀ (l l2 : List Int32) (A : xT) (k : Nat), cApp A k (l ++ l2) = cApp (cApp A k l) (k + l.length) l2
  | [], _, _, _ => rfl
  | v :: l, l2, A, k => by
    rw [List.cons_append, cApp, cApp, cApp_app l l2, List.length_cons, show k + 1 + l.length = k + (l.length + 1) by omega]
theorem kX1_begin (hS : xSt Y G) {k : Nat} (hk : A 0 1 = nI k) (hk2 : k < 16) {v : Int32} (hQ : Q none Y G (va_up N 32 (cB1 A k v))) : V RX1 false cX1_begin 2 none none d b 0 [some (xR 32 0), some (xI v)] [] Y G (va_up N 32 A) Q := by
  refine V_ald0 dX1_begin_0 ?_
  refine V_getIr dX1_begin_1 flX1_15 (hS.r32.1 0 (0, 1) rfl) ?_
  refine V_eqI hk ?_
  refine V_bipush (v := nI 16) dX1_begin_4 (by decide) ?_
  refine V_icmpgeN (tgt := 29) dX1_begin_6 (by decide) (by omega) (by omega) (fun c6 => ?_) (fun c6 => ?_)
  · exact absurd c6 (by omega)
  · skip
    refine V_ald0 dX1_begin_9 ?_
    refine V_getR dX1_begin_10 flX1_11 (hS.r32.1 0 (0, 1) rfl) (hS.r32.2 0 (32, 1) rfl) ?_
    refine V_ald0 dX1_begin_13 ?_
    refine V_getIr dX1_begin_14 flX1_15 (hS.r32.1 0 (0, 1) rfl) ?_
    refine V_eqI hk ?_
    refine V_ild1 dX1_begin_17 ?_
    refine V_iasr dX1_begin_18 (hS.r32.1 1 (1, 16) rfl) (by omega) (by decide) ?_
    refine V_ald0 dX1_begin_19 ?_
    refine V_dupR dX1_begin_20 ?_
    refine V_getIr dX1_begin_21 flX1_15 (hS.r32.1 0 (0, 1) rfl) ?_
    refine V_eqI hk ?_
    refine V_iconst (v := nI 1) dX1_begin_24 (by decide) ?_
    refine V_iaddN dX1_begin_25 ?_
    refine V_putIr dX1_begin_26 fwX1_15 (hS.r32.1 0 (0, 1) rfl) ?_
    refine V_return dX1_begin_29 rfl ?_
    exact hQ
theorem kX1_body10 (hS : xSt Y G) {t : Nat} (hT : xTr Y G t) (ht : t ≠ 32) (hN : N t = T) {p : Nat} (hp : p < 8) {k : Nat} (hk : A 0 1 = nI k) (hk2 : k + 1 ≤ 16) (hQ : Q (some (xI (T 14 p))) Y G (va_up N 32 (cApp A k [nI 10]))) : V RX1 false cX1_body10 3 (some .int) none (d + 1) b 0 [some (xR 32 0), some (xR t 0), some (xI (nI p))] [] Y G (va_up N 32 A) Q := by
  refine V_ald0 dX1_body10_0 ?_
  refine V_bipush (v := nI 10) dX1_body10_1 (by decide) ?_
  refine V_iv1 dX1_body10_3 wlX1_59 mdX1_begin miX1_begin rfl (hS.r32.1 0 (0, 1) rfl) rfl rfl (kX1_begin hS hk (by omega) ⟨rfl, ?_⟩)
  refine V_ald1 dX1_body10_6 ?_
  refine V_getR dX1_body10_7 flX1_63 (hT.1 0 (0, 5) rfl) (show G t 0 13 = some (t, 14) from hT.2 13 (by decide) (by decide)) ?_
  refine V_ild2 dX1_body10_10 ?_
  refine V_ia dX1_body10_11 (hT.1 14 (1, 8) rfl) (by omega) (by decide) ?_
  refine V_eqI (xQr ht hN) ?_
  refine V_ireturn dX1_body10_12 ⟨_, rfl, vp_nar_int _⟩ ?_
  exact hQ
theorem kX1_body20 (hS : xSt Y G) {t : Nat} (hT : xTr Y G t) (ht : t ≠ 32) (hN : N t = T) {p : Nat} (hp : p < 8) {k : Nat} (hk : A 0 1 = nI k) (hk2 : k + 1 ≤ 16) (hQ : Q (some (xI (nI p))) Y G (va_up N 32 (cApp A k [nI 20]))) : V RX1 false cX1_body20 3 (some .int) none (d + 1) b 0 [some (xR 32 0), some (xR t 0), some (xI (nI p))] [] Y G (va_up N 32 A) Q := by
  refine V_ald0 dX1_body20_0 ?_
  refine V_bipush (v := nI 20) dX1_body20_1 (by decide) ?_
  refine V_iv1 dX1_body20_3 wlX1_59 mdX1_begin miX1_begin rfl (hS.r32.1 0 (0, 1) rfl) rfl rfl (kX1_begin hS hk (by omega) ⟨rfl, ?_⟩)
  refine V_ild2 dX1_body20_6 ?_
  refine V_ireturn dX1_body20_7 ⟨_, rfl, vp_nar_int _⟩ ?_
  exact hQ
theorem kX1_body21 (hS : xSt Y G) {t : Nat} (hT : xTr Y G t) (ht : t ≠ 32) (hN : N t = T) {p : Nat} (hp : p < 8) {k : Nat} (hk : A 0 1 = nI k) (hk2 : k + 2 ≤ 16) (hQ : Q (some (xI (nI p + T 10 p))) Y G (va_up N 32 (cApp A k [nI 21, nI 20]))) : V RX1 false cX1_body21 3 (some .int) none (d + 2) b 0 [some (xR 32 0), some (xR t 0), some (xI (nI p))] [] Y G (va_up N 32 A) Q := by
  refine V_ald0 dX1_body21_0 ?_
  refine V_bipush (v := nI 21) dX1_body21_1 (by decide) ?_
  refine V_iv1 dX1_body21_3 wlX1_59 mdX1_begin miX1_begin rfl (hS.r32.1 0 (0, 1) rfl) rfl rfl (kX1_begin hS hk (by omega) ⟨rfl, ?_⟩)
  refine V_ald0 dX1_body21_6 ?_
  refine V_ald1 dX1_body21_7 ?_
  refine V_ild2 dX1_body21_8 ?_
  refine V_iv2 dX1_body21_9 wlX1_56 mdX1_body20 miX1_body20 rfl (hS.r32.1 0 (0, 1) rfl) rfl rfl (kX1_body20 hS hT ht hN hp (cB1_k A k _) (by omega) ⟨rfl, ?_⟩)
  refine V_ald1 dX1_body21_12 ?_
  refine V_getR dX1_body21_13 flX1_69 (hT.1 0 (0, 5) rfl) (show G t 0 9 = some (t, 10) from hT.2 9 (by decide) (by decide)) ?_
  refine V_ild2 dX1_body21_16 ?_
  refine V_ia dX1_body21_17 (hT.1 10 (1, 8) rfl) (by omega) (by decide) ?_
  refine V_eqI (xQr ht hN) ?_
  refine V_iadd dX1_body21_18 ?_
  refine V_ireturn dX1_body21_19 ⟨_, rfl, vp_nar_int _⟩ ?_
  exact hQ
theorem kX1_body22 (hS : xSt Y G) {t : Nat} (hT : xTr Y G t) (ht : t ≠ 32) (hN : N t = T) {p : Nat} (hp : p < 8) {k : Nat} (hk : A 0 1 = nI k) (hk2 : k + 3 ≤ 16) (hQ : Q (some (xI (nI p + T 10 p - nI 1000))) Y G (va_up N 32 (cApp A k [nI 22, nI 21, nI 20]))) : V RX1 false cX1_body22 3 (some .int) none (d + 3) b 0 [some (xR 32 0), some (xR t 0), some (xI (nI p))] [] Y G (va_up N 32 A) Q := by
  refine V_ald0 dX1_body22_0 ?_
  refine V_bipush (v := nI 22) dX1_body22_1 (by decide) ?_
  refine V_iv1 dX1_body22_3 wlX1_59 mdX1_begin miX1_begin rfl (hS.r32.1 0 (0, 1) rfl) rfl rfl (kX1_begin hS hk (by omega) ⟨rfl, ?_⟩)
  refine V_ald0 dX1_body22_6 ?_
  refine V_ald1 dX1_body22_7 ?_
  refine V_ild2 dX1_body22_8 ?_
  refine V_iv2 dX1_body22_9 wlX1_44 mdX1_body21 miX1_body21 rfl (hS.r32.1 0 (0, 1) rfl) rfl rfl (kX1_body21 hS hT ht hN hp (cB1_k A k _) (by omega) ⟨rfl, ?_⟩)
  refine V_sipush (v := nI 1000) dX1_body22_12 (by decide) ?_
  refine V_isub dX1_body22_15 ?_
  refine V_ireturn dX1_body22_16 ⟨_, rfl, vp_nar_int _⟩ ?_
  exact hQ
theorem kX1_body24 (hS : xSt Y G) {t : Nat} (hT : xTr Y G t) (ht : t ≠ 32) (hN : N t = T) {p : Nat} (hp : p < 8) {k : Nat} (hk : A 0 1 = nI k) (hk2 : k + 3 ≤ 16) (hQ : Q (some (xI (nI 2 * (nI p + T 10 p)))) Y G (va_up N 32 (cApp A k [nI 24, nI 21, nI 20]))) : V RX1 false cX1_body24 3 (some .int) none (d + 3) b 0 [some (xR 32 0), some (xR t 0), some (xI (nI p))] [] Y G (va_up N 32 A) Q := by
  refine V_ald0 dX1_body24_0 ?_
  refine V_bipush (v := nI 24) dX1_body24_1 (by decide) ?_
  refine V_iv1 dX1_body24_3 wlX1_59 mdX1_begin miX1_begin rfl (hS.r32.1 0 (0, 1) rfl) rfl rfl (kX1_begin hS hk (by omega) ⟨rfl, ?_⟩)
  refine V_iconst (v := nI 2) dX1_body24_6 (by decide) ?_
  refine V_ald0 dX1_body24_7 ?_
  refine V_ald1 dX1_body24_8 ?_
  refine V_ild2 dX1_body24_9 ?_
  refine V_iv2 dX1_body24_10 wlX1_44 mdX1_body21 miX1_body21 rfl (hS.r32.1 0 (0, 1) rfl) rfl rfl (kX1_body21 hS hT ht hN hp (cB1_k A k _) (by omega) ⟨rfl, ?_⟩)
  refine V_imul dX1_body24_13 ?_
  refine V_ireturn dX1_body24_14 ⟨_, rfl, vp_nar_int _⟩ ?_
  exact hQ
theorem kX1_body13 (hS : xSt Y G) {t : Nat} (hT : xTr Y G t) (ht : t ≠ 32) (hN : N t = T) {p : Nat} (hp : p < 8) {k : Nat} (hk : A 0 1 = nI k) (hk2 : k + 2 ≤ 16) (hQ : Q (some (xI (T 14 p - nI 100))) Y G (va_up N 32 (cApp A k [nI 13, nI 10]))) : V RX1 false cX1_body13 3 (some .int) none (d + 2) b 0 [some (xR 32 0), some (xR t 0), some (xI (nI p))] [] Y G (va_up N 32 A) Q := by
  refine V_ald0 dX1_body13_0 ?_
  refine V_bipush (v := nI 13) dX1_body13_1 (by decide) ?_
  refine V_iv1 dX1_body13_3 wlX1_59 mdX1_begin miX1_begin rfl (hS.r32.1 0 (0, 1) rfl) rfl rfl (kX1_begin hS hk (by omega) ⟨rfl, ?_⟩)
  refine V_ald0 dX1_body13_6 ?_
  refine V_ald1 dX1_body13_7 ?_
  refine V_ild2 dX1_body13_8 ?_
  refine V_iv2 dX1_body13_9 wlX1_41 mdX1_body10 miX1_body10 rfl (hS.r32.1 0 (0, 1) rfl) rfl rfl (kX1_body10 hS hT ht hN hp (cB1_k A k _) (by omega) ⟨rfl, ?_⟩)
  refine V_bipush (v := nI 100) dX1_body13_12 (by decide) ?_
  refine V_isub dX1_body13_14 ?_
  refine V_ireturn dX1_body13_15 ⟨_, rfl, vp_nar_int _⟩ ?_
  exact hQ
theorem kX1_body14 (hS : xSt Y G) {t : Nat} (hT : xTr Y G t) (ht : t ≠ 32) (hN : N t = T) {p : Nat} (hp : p < 8) {k : Nat} (hk : A 0 1 = nI k) (hk2 : k + 3 ≤ 16) (hQ : Q (some (xI (nI 2 * (T 14 p - nI 100)))) Y G (va_up N 32 (cApp A k [nI 14, nI 13, nI 10]))) : V RX1 false cX1_body14 3 (some .int) none (d + 3) b 0 [some (xR 32 0), some (xR t 0), some (xI (nI p))] [] Y G (va_up N 32 A) Q := by
  refine V_ald0 dX1_body14_0 ?_
  refine V_bipush (v := nI 14) dX1_body14_1 (by decide) ?_
  refine V_iv1 dX1_body14_3 wlX1_59 mdX1_begin miX1_begin rfl (hS.r32.1 0 (0, 1) rfl) rfl rfl (kX1_begin hS hk (by omega) ⟨rfl, ?_⟩)
  refine V_iconst (v := nI 2) dX1_body14_6 (by decide) ?_
  refine V_ald0 dX1_body14_7 ?_
  refine V_ald1 dX1_body14_8 ?_
  refine V_ild2 dX1_body14_9 ?_
  refine V_iv2 dX1_body14_10 wlX1_35 mdX1_body13 miX1_body13 rfl (hS.r32.1 0 (0, 1) rfl) rfl rfl (kX1_body13 hS hT ht hN hp (cB1_k A k _) (by omega) ⟨rfl, ?_⟩)
  refine V_imul dX1_body14_13 ?_
  refine V_ireturn dX1_body14_14 ⟨_, rfl, vp_nar_int _⟩ ?_
  exact hQ
def cMark (T : xT) (p s : Nat) : Int32 := if s = 1 then nI p + T 10 p else if s = 2 then nI 2 * (nI p + T 10 p) else if s = 3 then nI p + T 10 p - nI 1000 else if s = 4 then nI p - (T 14 p - nI 100) else nI p - nI 2 * (T 14 p - nI 100)
def cMarkL (s : Nat) : List Int32 := if s = 1 then [nI 21, nI 20] else if s = 2 then [nI 24, nI 21, nI 20] else if s = 3 then [nI 22, nI 21, nI 20] else if s = 4 then [nI 23, nI 20, nI 13, nI 10] else [nI 23, nI 20, nI 14, nI 13, nI 10]
def cSize (T : xT) (p s : Nat) : Int32 := if s = 1 then T 14 p + cMark T p 1 else if s = 2 then -(T 14 p + cMark T p 2) else if s = 3 then T 14 p + cMark T p 3 else if s = 4 then T 14 p - nI 100 else nI 2 * (T 14 p - nI 100)
def cSizeL (s : Nat) : List Int32 := if s = 1 then [nI 11, nI 10, nI 21, nI 20] else if s = 2 then [nI 12, nI 11, nI 10, nI 24, nI 21, nI 20] else if s = 3 then [nI 11, nI 10, nI 22, nI 21, nI 20] else if s = 4 then [nI 13, nI 10] else [nI 14, nI 13, nI 10]
theorem kX1_markG (hS : xSt Y G) {t : Nat} (hT : xTr Y G t) (ht : t ≠ 32) (hN : N t = T) {p : Nat} (hp : p < 8) {k : Nat} (hk : A 0 1 = nI k) {s : Nat} (es : T 9 p = nI s) (hs : 1 ≤ s ∧ s ≤ 3) (hk2 : k + 6 ≤ 16) (hQ : Q (some (xI (cMark T p s))) Y G (va_up N 32 (cApp A k (cMarkL s)))) : V RX1 false cX1_mark 3 (some .int) none (d + 4) b 0 [some (xR 32 0), some (xR t 0), some (xI (nI p))] [] Y G (va_up N 32 A) Q := by
  refine V_ald1 dX1_mark_0 ?_
  refine V_getR dX1_mark_1 flX1_23 (hT.1 0 (0, 5) rfl) (show G t 0 8 = some (t, 9) from hT.2 8 (by decide) (by decide)) ?_
  refine V_ild2 dX1_mark_4 ?_
  refine V_ia dX1_mark_5 (hT.1 9 (1, 8) rfl) (by omega) (by decide) ?_
  refine V_eqI ((xQr ht hN).trans es) ?_
  refine V_tsw5 (lo := 1) (t0 := 40) (t1 := 47) (t2 := 54) (t3 := 61) (t4 := 68) (td := 75) dX1_mark_6 (by decide) (by decide) (by decide) (by decide) (by decide) (by decide) (fun s6 => ?_) (fun s6 => ?_) (fun s6 => ?_) (fun s6 => ?_) (fun s6 => ?_) (fun s6_0 s6_1 s6_2 s6_3 s6_4 => ?_)
  · skip
    have e1 : s = 1 := nI_inj (by omega) (by decide) s6
    subst e1
    refine V_ald0 dX1_mark_40 ?_
    refine V_ald1 dX1_mark_41 ?_
    refine V_ild2 dX1_mark_42 ?_
    refine V_iv2 dX1_mark_43 wlX1_44 mdX1_body21 miX1_body21 rfl (hS.r32.1 0 (0, 1) rfl) rfl rfl (kX1_body21 hS hT ht hN hp hk (by omega) ⟨rfl, ?_⟩)
    refine V_ireturn dX1_mark_46 ⟨_, rfl, vp_nar_int _⟩ ?_
    exact hQ
  · skip
    have e2 : s = 2 := nI_inj (by omega) (by decide) s6
    subst e2
    refine V_ald0 dX1_mark_47 ?_
    refine V_ald1 dX1_mark_48 ?_
    refine V_ild2 dX1_mark_49 ?_
    refine V_iv2 dX1_mark_50 wlX1_47 mdX1_body24 miX1_body24 rfl (hS.r32.1 0 (0, 1) rfl) rfl rfl (kX1_body24 hS hT ht hN hp hk (by omega) ⟨rfl, ?_⟩)
    refine V_ireturn dX1_mark_53 ⟨_, rfl, vp_nar_int _⟩ ?_
    exact hQ
  · skip
    have e3 : s = 3 := nI_inj (by omega) (by decide) s6
    subst e3
    refine V_ald0 dX1_mark_54 ?_
    refine V_ald1 dX1_mark_55 ?_
    refine V_ild2 dX1_mark_56 ?_
    refine V_iv2 dX1_mark_57 wlX1_50 mdX1_body22 miX1_body22 rfl (hS.r32.1 0 (0, 1) rfl) rfl rfl (kX1_body22 hS hT ht hN hp hk (by omega) ⟨rfl, ?_⟩)
    refine V_ireturn dX1_mark_60 ⟨_, rfl, vp_nar_int _⟩ ?_
    exact hQ
  · skip
    exact absurd (nI_inj (by omega) (by decide) s6) (by omega)
  · skip
    exact absurd (nI_inj (by omega) (by decide) s6) (by omega)
  · skip
    exfalso
    have f0 : s ≠ 1 := fun e => s6_0 (by rw [e])
    have f1 : s ≠ 2 := fun e => s6_1 (by rw [e])
    have f2 : s ≠ 3 := fun e => s6_2 (by rw [e])
    have f3 : s ≠ 4 := fun e => s6_3 (by rw [e])
    have f4 : s ≠ 5 := fun e => s6_4 (by rw [e])
    omega
theorem kX1_sizeS (hS : xSt Y G) {t : Nat} (hT : xTr Y G t) (ht : t ≠ 32) (hN : N t = T) {p : Nat} (hp : p < 8) {k : Nat} (hk : A 0 1 = nI k) {s : Nat} (es : T 9 p = nI s) (hs : 4 ≤ s ∧ s ≤ 5) (hk2 : k + 6 ≤ 16) (hQ : Q (some (xI (cSize T p s))) Y G (va_up N 32 (cApp A k (cSizeL s)))) : V RX1 false cX1_size 3 (some .int) none (d + 4) b 0 [some (xR 32 0), some (xR t 0), some (xI (nI p))] [] Y G (va_up N 32 A) Q := by
  refine V_ald1 dX1_size_0 ?_
  refine V_getR dX1_size_1 flX1_23 (hT.1 0 (0, 5) rfl) (show G t 0 8 = some (t, 9) from hT.2 8 (by decide) (by decide)) ?_
  refine V_ild2 dX1_size_4 ?_
  refine V_ia dX1_size_5 (hT.1 9 (1, 8) rfl) (by omega) (by decide) ?_
  refine V_eqI ((xQr ht hN).trans es) ?_
  refine V_tsw5 (lo := 1) (t0 := 40) (t1 := 47) (t2 := 54) (t3 := 61) (t4 := 68) (td := 75) dX1_size_6 (by decide) (by decide) (by decide) (by decide) (by decide) (by decide) (fun s6 => ?_) (fun s6 => ?_) (fun s6 => ?_) (fun s6 => ?_) (fun s6 => ?_) (fun s6_0 s6_1 s6_2 s6_3 s6_4 => ?_)
  · skip
    exact absurd (nI_inj (by omega) (by decide) s6) (by omega)
  · skip
    exact absurd (nI_inj (by omega) (by decide) s6) (by omega)
  · skip
    exact absurd (nI_inj (by omega) (by decide) s6) (by omega)
  · skip
    have e4 : s = 4 := nI_inj (by omega) (by decide) s6
    subst e4
    refine V_ald0 dX1_size_61 ?_
    refine V_ald1 dX1_size_62 ?_
    refine V_ild2 dX1_size_63 ?_
    refine V_iv2 dX1_size_64 wlX1_35 mdX1_body13 miX1_body13 rfl (hS.r32.1 0 (0, 1) rfl) rfl rfl (kX1_body13 hS hT ht hN hp hk (by omega) ⟨rfl, ?_⟩)
    refine V_ireturn dX1_size_67 ⟨_, rfl, vp_nar_int _⟩ ?_
    exact hQ
  · skip
    have e5 : s = 5 := nI_inj (by omega) (by decide) s6
    subst e5
    refine V_ald0 dX1_size_68 ?_
    refine V_ald1 dX1_size_69 ?_
    refine V_ild2 dX1_size_70 ?_
    refine V_iv2 dX1_size_71 wlX1_38 mdX1_body14 miX1_body14 rfl (hS.r32.1 0 (0, 1) rfl) rfl rfl (kX1_body14 hS hT ht hN hp hk (by omega) ⟨rfl, ?_⟩)
    refine V_ireturn dX1_size_74 ⟨_, rfl, vp_nar_int _⟩ ?_
    exact hQ
  · skip
    exfalso
    have f0 : s ≠ 1 := fun e => s6_0 (by rw [e])
    have f1 : s ≠ 2 := fun e => s6_1 (by rw [e])
    have f2 : s ≠ 3 := fun e => s6_2 (by rw [e])
    have f3 : s ≠ 4 := fun e => s6_3 (by rw [e])
    have f4 : s ≠ 5 := fun e => s6_4 (by rw [e])
    omega
theorem kX1_body11 (hS : xSt Y G) {t : Nat} (hT : xTr Y G t) (ht : t ≠ 32) (hN : N t = T) {p : Nat} (hp : p < 8) {k : Nat} (hk : A 0 1 = nI k) {s : Nat} (es : T 9 p = nI s) (hs : 1 ≤ s ∧ s ≤ 3) (hk2 : k + 8 ≤ 16) (hQ : Q (some (xI (T 14 p + cMark T p s))) Y G (va_up N 32 (cApp A k (nI 11 :: nI 10 :: cMarkL s)))) : V RX1 false cX1_body11 3 (some .int) none (d + 5) b 0 [some (xR 32 0), some (xR t 0), some (xI (nI p))] [] Y G (va_up N 32 A) Q := by
  refine V_ald0 dX1_body11_0 ?_
  refine V_bipush (v := nI 11) dX1_body11_1 (by decide) ?_
  refine V_iv1 dX1_body11_3 wlX1_59 mdX1_begin miX1_begin rfl (hS.r32.1 0 (0, 1) rfl) rfl rfl (kX1_begin hS hk (by omega) ⟨rfl, ?_⟩)
  refine V_ald0 dX1_body11_6 ?_
  refine V_ald1 dX1_body11_7 ?_
  refine V_ild2 dX1_body11_8 ?_
  refine V_iv2 dX1_body11_9 wlX1_41 mdX1_body10 miX1_body10 rfl (hS.r32.1 0 (0, 1) rfl) rfl rfl (kX1_body10 hS hT ht hN hp (cB1_k A k _) (by omega) ⟨rfl, ?_⟩)
  refine V_ald0 dX1_body11_12 ?_
  refine V_ald1 dX1_body11_13 ?_
  refine V_ild2 dX1_body11_14 ?_
  refine V_iv2 dX1_body11_15 wlX1_66 mdX1_mark miX1_mark rfl (hS.r32.1 0 (0, 1) rfl) rfl rfl (kX1_markG hS hT ht hN hp (A := cB1 (cB1 A k (nI 11)) (k + 1) (nI 10)) (k := k + 1 + 1) (cB1_k _ _ _) es hs (by omega) ⟨rfl, ?_⟩)
  refine V_iadd dX1_body11_18 ?_
  refine V_ireturn dX1_body11_19 ⟨_, rfl, vp_nar_int _⟩ ?_
  exact hQ
theorem kX1_body12 (hS : xSt Y G) {t : Nat} (hT : xTr Y G t) (ht : t ≠ 32) (hN : N t = T) {p : Nat} (hp : p < 8) {k : Nat} (hk : A 0 1 = nI k) {s : Nat} (es : T 9 p = nI s) (hs : 1 ≤ s ∧ s ≤ 3) (hk2 : k + 9 ≤ 16) (hQ : Q (some (xI (-(T 14 p + cMark T p s)))) Y G (va_up N 32 (cApp A k (nI 12 :: nI 11 :: nI 10 :: cMarkL s)))) : V RX1 false cX1_body12 3 (some .int) none (d + 6) b 0 [some (xR 32 0), some (xR t 0), some (xI (nI p))] [] Y G (va_up N 32 A) Q := by
  refine V_ald0 dX1_body12_0 ?_
  refine V_bipush (v := nI 12) dX1_body12_1 (by decide) ?_
  refine V_iv1 dX1_body12_3 wlX1_59 mdX1_begin miX1_begin rfl (hS.r32.1 0 (0, 1) rfl) rfl rfl (kX1_begin hS hk (by omega) ⟨rfl, ?_⟩)
  refine V_ald0 dX1_body12_6 ?_
  refine V_ald1 dX1_body12_7 ?_
  refine V_ild2 dX1_body12_8 ?_
  refine V_iv2 dX1_body12_9 wlX1_28 mdX1_body11 miX1_body11 rfl (hS.r32.1 0 (0, 1) rfl) rfl rfl (kX1_body11 hS hT ht hN hp (cB1_k A k _) es hs (by omega) ⟨rfl, ?_⟩)
  refine V_ineg dX1_body12_12 ?_
  refine V_ireturn dX1_body12_13 ⟨_, rfl, vp_nar_int _⟩ ?_
  exact hQ
theorem kX1_body23 (hS : xSt Y G) {t : Nat} (hT : xTr Y G t) (ht : t ≠ 32) (hN : N t = T) {p : Nat} (hp : p < 8) {k : Nat} (hk : A 0 1 = nI k) {s : Nat} (es : T 9 p = nI s) (hs : 4 ≤ s ∧ s ≤ 5) (hk2 : k + 8 ≤ 16) (hQ : Q (some (xI (nI p - cSize T p s))) Y G (va_up N 32 (cApp A k (nI 23 :: nI 20 :: cSizeL s)))) : V RX1 false cX1_body23 3 (some .int) none (d + 5) b 0 [some (xR 32 0), some (xR t 0), some (xI (nI p))] [] Y G (va_up N 32 A) Q := by
  refine V_ald0 dX1_body23_0 ?_
  refine V_bipush (v := nI 23) dX1_body23_1 (by decide) ?_
  refine V_iv1 dX1_body23_3 wlX1_59 mdX1_begin miX1_begin rfl (hS.r32.1 0 (0, 1) rfl) rfl rfl (kX1_begin hS hk (by omega) ⟨rfl, ?_⟩)
  refine V_ald0 dX1_body23_6 ?_
  refine V_ald1 dX1_body23_7 ?_
  refine V_ild2 dX1_body23_8 ?_
  refine V_iv2 dX1_body23_9 wlX1_56 mdX1_body20 miX1_body20 rfl (hS.r32.1 0 (0, 1) rfl) rfl rfl (kX1_body20 hS hT ht hN hp (cB1_k A k _) (by omega) ⟨rfl, ?_⟩)
  refine V_ald0 dX1_body23_12 ?_
  refine V_ald1 dX1_body23_13 ?_
  refine V_ild2 dX1_body23_14 ?_
  refine V_iv2 dX1_body23_15 wlX1_72 mdX1_size miX1_size rfl (hS.r32.1 0 (0, 1) rfl) rfl rfl (kX1_sizeS hS hT ht hN hp (A := cB1 (cB1 A k (nI 23)) (k + 1) (nI 20)) (k := k + 1 + 1) (cB1_k _ _ _) es hs (by omega) ⟨rfl, ?_⟩)
  refine V_isub dX1_body23_18 ?_
  refine V_ireturn dX1_body23_19 ⟨_, rfl, vp_nar_int _⟩ ?_
  exact hQ
theorem kX1_size (hS : xSt Y G) {t : Nat} (hT : xTr Y G t) (ht : t ≠ 32) (hN : N t = T) {p : Nat} (hp : p < 8) {k : Nat} (hk : A 0 1 = nI k) {s : Nat} (es : T 9 p = nI s) (hs : 1 ≤ s ∧ s ≤ 5) (hk2 : k = 0) (hQ : Q (some (xI (cSize T p s))) Y G (va_up N 32 (cApp A k (cSizeL s)))) : V RX1 false cX1_size 3 (some .int) none (d + 7) b 0 [some (xR 32 0), some (xR t 0), some (xI (nI p))] [] Y G (va_up N 32 A) Q := by
  refine V_ald1 dX1_size_0 ?_
  refine V_getR dX1_size_1 flX1_23 (hT.1 0 (0, 5) rfl) (show G t 0 8 = some (t, 9) from hT.2 8 (by decide) (by decide)) ?_
  refine V_ild2 dX1_size_4 ?_
  refine V_ia dX1_size_5 (hT.1 9 (1, 8) rfl) (by omega) (by decide) ?_
  refine V_eqI ((xQr ht hN).trans es) ?_
  refine V_tsw5 (lo := 1) (t0 := 40) (t1 := 47) (t2 := 54) (t3 := 61) (t4 := 68) (td := 75) dX1_size_6 (by decide) (by decide) (by decide) (by decide) (by decide) (by decide) (fun s6 => ?_) (fun s6 => ?_) (fun s6 => ?_) (fun s6 => ?_) (fun s6 => ?_) (fun s6_0 s6_1 s6_2 s6_3 s6_4 => ?_)
  · skip
    have e1 : s = 1 := nI_inj (by omega) (by decide) s6
    subst e1
    refine V_ald0 dX1_size_40 ?_
    refine V_ald1 dX1_size_41 ?_
    refine V_ild2 dX1_size_42 ?_
    refine V_iv2 dX1_size_43 wlX1_28 mdX1_body11 miX1_body11 rfl (hS.r32.1 0 (0, 1) rfl) rfl rfl (kX1_body11 hS hT ht hN hp hk es (by omega) (by omega) ⟨rfl, ?_⟩)
    refine V_ireturn dX1_size_46 ⟨_, rfl, vp_nar_int _⟩ ?_
    exact hQ
  · skip
    have e2 : s = 2 := nI_inj (by omega) (by decide) s6
    subst e2
    refine V_ald0 dX1_size_47 ?_
    refine V_ald1 dX1_size_48 ?_
    refine V_ild2 dX1_size_49 ?_
    refine V_iv2 dX1_size_50 wlX1_32 mdX1_body12 miX1_body12 rfl (hS.r32.1 0 (0, 1) rfl) rfl rfl (kX1_body12 hS hT ht hN hp hk es (by omega) (by omega) ⟨rfl, ?_⟩)
    refine V_ireturn dX1_size_53 ⟨_, rfl, vp_nar_int _⟩ ?_
    exact hQ
  · skip
    have e3 : s = 3 := nI_inj (by omega) (by decide) s6
    subst e3
    refine V_ald0 dX1_size_54 ?_
    refine V_ald1 dX1_size_55 ?_
    refine V_ild2 dX1_size_56 ?_
    refine V_iv2 dX1_size_57 wlX1_28 mdX1_body11 miX1_body11 rfl (hS.r32.1 0 (0, 1) rfl) rfl rfl (kX1_body11 hS hT ht hN hp hk es (by omega) (by omega) ⟨rfl, ?_⟩)
    refine V_ireturn dX1_size_60 ⟨_, rfl, vp_nar_int _⟩ ?_
    exact hQ
  · skip
    have e4 : s = 4 := nI_inj (by omega) (by decide) s6
    subst e4
    refine V_ald0 dX1_size_61 ?_
    refine V_ald1 dX1_size_62 ?_
    refine V_ild2 dX1_size_63 ?_
    refine V_iv2 dX1_size_64 wlX1_35 mdX1_body13 miX1_body13 rfl (hS.r32.1 0 (0, 1) rfl) rfl rfl (kX1_body13 hS hT ht hN hp hk (by omega) ⟨rfl, ?_⟩)
    refine V_ireturn dX1_size_67 ⟨_, rfl, vp_nar_int _⟩ ?_
    exact hQ
  · skip
    have e5 : s = 5 := nI_inj (by omega) (by decide) s6
    subst e5
    refine V_ald0 dX1_size_68 ?_
    refine V_ald1 dX1_size_69 ?_
    refine V_ild2 dX1_size_70 ?_
    refine V_iv2 dX1_size_71 wlX1_38 mdX1_body14 miX1_body14 rfl (hS.r32.1 0 (0, 1) rfl) rfl rfl (kX1_body14 hS hT ht hN hp hk (by omega) ⟨rfl, ?_⟩)
    refine V_ireturn dX1_size_74 ⟨_, rfl, vp_nar_int _⟩ ?_
    exact hQ
  · skip
    exfalso
    have f0 : s ≠ 1 := fun e => s6_0 (by rw [e])
    have f1 : s ≠ 2 := fun e => s6_1 (by rw [e])
    have f2 : s ≠ 3 := fun e => s6_2 (by rw [e])
    have f3 : s ≠ 4 := fun e => s6_3 (by rw [e])
    have f4 : s ≠ 5 := fun e => s6_4 (by rw [e])
    omega
theorem kX1_mark (hS : xSt Y G) {t : Nat} (hT : xTr Y G t) (ht : t ≠ 32) (hN : N t = T) {p : Nat} (hp : p < 8) {k : Nat} (hk : A 0 1 = nI k) {s : Nat} (es : T 9 p = nI s) (hs : 1 ≤ s ∧ s ≤ 5) (hk2 : k = 0) (hQ : Q (some (xI (cMark T p s))) Y G (va_up N 32 (cApp A k (cMarkL s)))) : V RX1 false cX1_mark 3 (some .int) none (d + 7) b 0 [some (xR 32 0), some (xR t 0), some (xI (nI p))] [] Y G (va_up N 32 A) Q := by
  refine V_ald1 dX1_mark_0 ?_
  refine V_getR dX1_mark_1 flX1_23 (hT.1 0 (0, 5) rfl) (show G t 0 8 = some (t, 9) from hT.2 8 (by decide) (by decide)) ?_
  refine V_ild2 dX1_mark_4 ?_
  refine V_ia dX1_mark_5 (hT.1 9 (1, 8) rfl) (by omega) (by decide) ?_
  refine V_eqI ((xQr ht hN).trans es) ?_
  refine V_tsw5 (lo := 1) (t0 := 40) (t1 := 47) (t2 := 54) (t3 := 61) (t4 := 68) (td := 75) dX1_mark_6 (by decide) (by decide) (by decide) (by decide) (by decide) (by decide) (fun s6 => ?_) (fun s6 => ?_) (fun s6 => ?_) (fun s6 => ?_) (fun s6 => ?_) (fun s6_0 s6_1 s6_2 s6_3 s6_4 => ?_)
  · skip
    have e1 : s = 1 := nI_inj (by omega) (by decide) s6
    subst e1
    refine V_ald0 dX1_mark_40 ?_
    refine V_ald1 dX1_mark_41 ?_
    refine V_ild2 dX1_mark_42 ?_
    refine V_iv2 dX1_mark_43 wlX1_44 mdX1_body21 miX1_body21 rfl (hS.r32.1 0 (0, 1) rfl) rfl rfl (kX1_body21 hS hT ht hN hp hk (by omega) ⟨rfl, ?_⟩)
    refine V_ireturn dX1_mark_46 ⟨_, rfl, vp_nar_int _⟩ ?_
    exact hQ
  · skip
    have e2 : s = 2 := nI_inj (by omega) (by decide) s6
    subst e2
    refine V_ald0 dX1_mark_47 ?_
    refine V_ald1 dX1_mark_48 ?_
    refine V_ild2 dX1_mark_49 ?_
    refine V_iv2 dX1_mark_50 wlX1_47 mdX1_body24 miX1_body24 rfl (hS.r32.1 0 (0, 1) rfl) rfl rfl (kX1_body24 hS hT ht hN hp hk (by omega) ⟨rfl, ?_⟩)
    refine V_ireturn dX1_mark_53 ⟨_, rfl, vp_nar_int _⟩ ?_
    exact hQ
  · skip
    have e3 : s = 3 := nI_inj (by omega) (by decide) s6
    subst e3
    refine V_ald0 dX1_mark_54 ?_
    refine V_ald1 dX1_mark_55 ?_
    refine V_ild2 dX1_mark_56 ?_
    refine V_iv2 dX1_mark_57 wlX1_50 mdX1_body22 miX1_body22 rfl (hS.r32.1 0 (0, 1) rfl) rfl rfl (kX1_body22 hS hT ht hN hp hk (by omega) ⟨rfl, ?_⟩)
    refine V_ireturn dX1_mark_60 ⟨_, rfl, vp_nar_int _⟩ ?_
    exact hQ
  · skip
    have e4 : s = 4 := nI_inj (by omega) (by decide) s6
    subst e4
    refine V_ald0 dX1_mark_61 ?_
    refine V_ald1 dX1_mark_62 ?_
    refine V_ild2 dX1_mark_63 ?_
    refine V_iv2 dX1_mark_64 wlX1_53 mdX1_body23 miX1_body23 rfl (hS.r32.1 0 (0, 1) rfl) rfl rfl (kX1_body23 hS hT ht hN hp hk es (by omega) (by omega) ⟨rfl, ?_⟩)
    refine V_ireturn dX1_mark_67 ⟨_, rfl, vp_nar_int _⟩ ?_
    exact hQ
  · skip
    have e5 : s = 5 := nI_inj (by omega) (by decide) s6
    subst e5
    refine V_ald0 dX1_mark_68 ?_
    refine V_ald1 dX1_mark_69 ?_
    refine V_ild2 dX1_mark_70 ?_
    refine V_iv2 dX1_mark_71 wlX1_53 mdX1_body23 miX1_body23 rfl (hS.r32.1 0 (0, 1) rfl) rfl rfl (kX1_body23 hS hT ht hN hp hk es (by omega) (by omega) ⟨rfl, ?_⟩)
    refine V_ireturn dX1_mark_74 ⟨_, rfl, vp_nar_int _⟩ ?_
    exact hQ
  · skip
    exfalso
    have f0 : s ≠ 1 := fun e => s6_0 (by rw [e])
    have f1 : s ≠ 2 := fun e => s6_1 (by rw [e])
    have f2 : s ≠ 3 := fun e => s6_2 (by rw [e])
    have f3 : s ≠ 4 := fun e => s6_3 (by rw [e])
    have f4 : s ≠ 5 := fun e => s6_4 (by rw [e])
    omega
end KC
