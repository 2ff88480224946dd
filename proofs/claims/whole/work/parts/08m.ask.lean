def rB1 (S : xT) (k : Nat) (v : Int32) : xT := va_up (va_up S 20 (upd (S 20) k v)) 0 (upd (va_up S 20 (upd (S 20) k v) 0) 20 (nI (k + 1)))
def rApp : xT → Nat → List Int32 → xT
  | S, _, [] => S
  | S, k, v :: l => rApp (rB1 S k v) (k + 1) l
theorem rB1_k (S : xT) (k : Nat) (v : Int32) : rB1 S k v 0 20 = nI (k + 1) := by unfold rB1; rw [va_up_eq, upd_eq]
theorem rB1_no (S : xT) (k : Nat) (v : Int32) {c : Nat} (h0 : c ≠ 0) (h1 : c ≠ 20) : rB1 S k v c = S c := by unfold rB1; rw [va_up_no _ _ h0, va_up_no _ _ h1]
theorem rApp_k : ∀ (l : List Int32) (S : xT) (k : Nat), S 0 20 = nI k → rApp S k l 0 20 = nI (k + l.length)
  | [], _, _, h => h
  | v :: l, S, k, h => by rw [rApp, rApp_k l _ _ (rB1_k S k v), List.length_cons]; congr 1; omega
theorem rApp_no : ∀ (l : List Int32) (S : xT) (k : Nat) {c : Nat}, c ≠ 0 → c ≠ 20 → rApp S k l c = S c
  | [], _, _, _, _, _ => rfl
  | v :: l, S, k, c, h0, h1 => by rw [rApp, rApp_no l _ _ h0 h1, rB1_no S k v h0 h1]
theorem rApp_app : ∀ (l l2 : List Int32) (S : xT) (k : Nat), rApp S k (l ++ l2) = rApp (rApp S k l) (k + l.length) l2
  | [], _, _, _ => rfl
  | v :: l, l2, S, k => by rw [List.cons_append, rApp, rApp_app l l2, rApp, List.length_cons]; congr 1; omega
def rowT (S : xT) : xT := fun c j => S 13 (bs c + j)
theorem rowT_app (l : List Int32) (S : xT) (k : Nat) : rowT (rApp S k l) = rowT S := by unfold rowT; rw [rApp_no l S k (by decide) (by decide)]
def cAsk (T : xT) (p s : Nat) (y : Int32) : Int32 := if y = 0 then cSize T p s else cMark T p s
def cAskL (s : Nat) (y : Int32) : List Int32 := if y = 0 then cSizeL s else cMarkL s
section KM
variable {d : Nat} {b : Nat × Nat} {Y : xY} {G : xG} {N : xM} {S : xT} {f : Nat → Int32} {Q : Option xAV → xY → xG → xM → Prop} {c : Nat}
theorem kX7_begins (hM : xMo Y G) {k : Nat} (hk : S 0 20 = nI k) (hk2 : k < 16) {v : Int32} (hQ : Q none Y G (va_up N 40 (rB1 S k v))) : V RX7 false cX7_begins 2 none none d b 0 [some (xR 40 0), some (xI v)] [] Y G (va_up N 40 S) Q := by
  refine V_ald0 dX7_begins_0 ?_
  refine V_getIr dX7_begins_1 flX7_259 (hM.1 0 (0, 7) rfl) ?_
  refine V_eqI hk ?_
  refine V_bipush (v := nI 16) dX7_begins_4 (by decide) ?_
  refine V_icmpgeN (tgt := 29) dX7_begins_6 (by decide) (by omega) (by omega) (fun c6 => ?_) (fun c6 => ?_)
  · exact absurd c6 (by omega)
  · skip
    refine V_ald0 dX7_begins_9 ?_
    refine V_getR dX7_begins_10 flX7_44 (hM.1 0 (0, 7) rfl) (show G 40 0 19 = some (40, 20) from hM.2 19 (1, 16) rfl) ?_
    refine V_ald0 dX7_begins_13 ?_
    refine V_getIr dX7_begins_14 flX7_259 (hM.1 0 (0, 7) rfl) ?_
    refine V_eqI hk ?_
    refine V_ild1 dX7_begins_17 ?_
    refine V_iasr dX7_begins_18 (hM.1 20 (1, 16) rfl) (by omega) (by decide) ?_
    refine V_ald0 dX7_begins_19 ?_
    refine V_dupR dX7_begins_20 ?_
    refine V_getIr dX7_begins_21 flX7_259 (hM.1 0 (0, 7) rfl) ?_
    refine V_eqI (show _ = nI k from hk) ?_
    refine V_iconst (v := nI 1) dX7_begins_24 (by decide) ?_
    refine V_iaddN dX7_begins_25 ?_
    refine V_putIr dX7_begins_26 fwX7_259 (hM.1 0 (0, 7) rfl) ?_
    refine V_return dX7_begins_29 rfl ?_
    exact hQ
theorem kX7_ten (hM : xMo Y G) {p : Nat} (hp : p < 8) {k : Nat} (hk : S 0 20 = nI k) (hk2 : k + 1 ≤ 16) (hQ : Q (some (xI (rowT S 14 p))) Y G (va_up N 40 (rApp S k [nI 10]))) : V RX7 false cX7_ten 2 (some .int) none (d + 1) b 0 [some (xR 40 0), some (xI (nI p))] [] Y G (va_up N 40 S) Q := by
  refine V_ald0 dX7_ten_0 ?_
  refine V_bipush (v := nI 10) dX7_ten_1 (by decide) ?_
  refine V_iv1 dX7_ten_3 wlX7_262 mdX7_begins miX7_begins rfl (hM.1 0 (0, 7) rfl) rfl rfl (kX7_begins hM hk (by omega) ⟨rfl, ?_⟩)
  refine V_ald0 dX7_ten_6 ?_
  refine V_getR dX7_ten_7 flX7_25 (hM.1 0 (0, 7) rfl) (show G 40 0 12 = some (40, 13) from hM.2 12 (1, 67) rfl) ?_
  refine V_bipush (v := nI 33) dX7_ten_10 (by decide) ?_
  refine V_ild1 dX7_ten_12 ?_
  refine V_iaddN dX7_ten_13 ?_
  refine V_iar dX7_ten_14 (hM.1 13 (1, 67) rfl) (by omega) (by decide) ?_
  refine V_ireturn dX7_ten_15 ⟨_, rfl, vp_nar_int _⟩ ?_
  exact hQ
theorem kX7_twenty (hM : xMo Y G) {p : Nat} (hp : p < 8) {k : Nat} (hk : S 0 20 = nI k) (hk2 : k + 1 ≤ 16) (hQ : Q (some (xI (nI p))) Y G (va_up N 40 (rApp S k [nI 20]))) : V RX7 false cX7_twenty 2 (some .int) none (d + 1) b 0 [some (xR 40 0), some (xI (nI p))] [] Y G (va_up N 40 S) Q := by
  refine V_ald0 dX7_twenty_0 ?_
  refine V_bipush (v := nI 20) dX7_twenty_1 (by decide) ?_
  refine V_iv1 dX7_twenty_3 wlX7_262 mdX7_begins miX7_begins rfl (hM.1 0 (0, 7) rfl) rfl rfl (kX7_begins hM hk (by omega) ⟨rfl, ?_⟩)
  refine V_ild1 dX7_twenty_6 ?_
  refine V_ireturn dX7_twenty_7 ⟨_, rfl, vp_nar_int _⟩ ?_
  exact hQ
theorem kX7_twentyOne (hM : xMo Y G) {p : Nat} (hp : p < 8) {k : Nat} (hk : S 0 20 = nI k) (hk2 : k + 2 ≤ 16) (hQ : Q (some (xI (nI p + rowT S 10 p))) Y G (va_up N 40 (rApp S k [nI 21, nI 20]))) : V RX7 false cX7_twentyOne 2 (some .int) none (d + 2) b 0 [some (xR 40 0), some (xI (nI p))] [] Y G (va_up N 40 S) Q := by
  refine V_ald0 dX7_twentyOne_0 ?_
  refine V_bipush (v := nI 21) dX7_twentyOne_1 (by decide) ?_
  refine V_iv1 dX7_twentyOne_3 wlX7_262 mdX7_begins miX7_begins rfl (hM.1 0 (0, 7) rfl) rfl rfl (kX7_begins hM hk (by omega) ⟨rfl, ?_⟩)
  refine V_ald0 dX7_twentyOne_6 ?_
  refine V_ild1 dX7_twentyOne_7 ?_
  refine V_iv1 dX7_twentyOne_8 wlX7_265 mdX7_twenty miX7_twenty rfl (hM.1 0 (0, 7) rfl) rfl rfl (kX7_twenty hM hp (rB1_k S k _) (by omega) ⟨rfl, ?_⟩)
  refine V_ald0 dX7_twentyOne_11 ?_
  refine V_getR dX7_twentyOne_12 flX7_25 (hM.1 0 (0, 7) rfl) (show G 40 0 12 = some (40, 13) from hM.2 12 (1, 67) rfl) ?_
  refine V_iconst (v := nI 1) dX7_twentyOne_15 (by decide) ?_
  refine V_ild1 dX7_twentyOne_16 ?_
  refine V_iaddN dX7_twentyOne_17 ?_
  refine V_iar dX7_twentyOne_18 (hM.1 13 (1, 67) rfl) (by omega) (by decide) ?_
  refine V_iadd dX7_twentyOne_19 ?_
  refine V_ireturn dX7_twentyOne_20 ⟨_, rfl, vp_nar_int _⟩ ?_
  exact hQ
theorem kX7_gateMark (hM : xMo Y G) {p : Nat} (hp : p < 8) {k : Nat} (hk : S 0 20 = nI k) {s : Nat} (es : S 11 p = nI s) (hs : 1 ≤ s ∧ s ≤ 3) (hk2 : k + 6 ≤ 16) (hQ : Q (some (xI (cMark (rowT S) p s))) Y G (va_up N 40 (rApp S k (cMarkL s)))) : V RX7 false cX7_gateMark 2 (some .int) none (d + 3) b 0 [some (xR 40 0), some (xI (nI p))] [] Y G (va_up N 40 S) Q := by
  refine V_ald0 dX7_gateMark_0 ?_
  refine V_getR dX7_gateMark_1 flX7_22 (hM.1 0 (0, 7) rfl) (show G 40 0 10 = some (40, 11) from hM.2 10 (1, 8) rfl) ?_
  refine V_ild1 dX7_gateMark_4 ?_
  refine V_iar dX7_gateMark_5 (hM.1 11 (1, 8) rfl) (by omega) (by decide) ?_
  refine V_eqI es ?_
  refine V_iconst (v := nI 3) dX7_gateMark_6 (by decide) ?_
  refine V_icmpneN (tgt := 26) dX7_gateMark_7 (by decide) (by omega) (by omega) (fun c7 => ?_) (fun c7 => ?_)
  · skip
    refine V_ald0 dX7_gateMark_26 ?_
    refine V_getR dX7_gateMark_27 flX7_22 (hM.1 0 (0, 7) rfl) (show G 40 0 10 = some (40, 11) from hM.2 10 (1, 8) rfl) ?_
    refine V_ild1 dX7_gateMark_30 ?_
    refine V_iar dX7_gateMark_31 (hM.1 11 (1, 8) rfl) (by omega) (by decide) ?_
    refine V_eqI es ?_
    refine V_iconst (v := nI 2) dX7_gateMark_32 (by decide) ?_
    refine V_icmpneN (tgt := 50) dX7_gateMark_33 (by decide) (by omega) (by omega) (fun c33 => ?_) (fun c33 => ?_)
    · skip
      refine V_ald0 dX7_gateMark_50 ?_
      refine V_ild1 dX7_gateMark_51 ?_
      refine V_iv1 dX7_gateMark_52 wlX7_268 mdX7_twentyOne miX7_twentyOne rfl (hM.1 0 (0, 7) rfl) rfl rfl (kX7_twentyOne hM hp hk (by omega) ⟨rfl, ?_⟩)
      refine V_ireturn dX7_gateMark_55 ⟨_, rfl, vp_nar_int _⟩ ?_
      rw [show s = 1 by omega] at hQ
      exact hQ
    · skip
      refine V_ald0 dX7_gateMark_36 ?_
      refine V_bipush (v := nI 24) dX7_gateMark_37 (by decide) ?_
      refine V_iv1 dX7_gateMark_39 wlX7_262 mdX7_begins miX7_begins rfl (hM.1 0 (0, 7) rfl) rfl rfl (kX7_begins hM hk (by omega) ⟨rfl, ?_⟩)
      refine V_iconst (v := nI 2) dX7_gateMark_42 (by decide) ?_
      refine V_ald0 dX7_gateMark_43 ?_
      refine V_ild1 dX7_gateMark_44 ?_
      refine V_iv1 dX7_gateMark_45 wlX7_268 mdX7_twentyOne miX7_twentyOne rfl (hM.1 0 (0, 7) rfl) rfl rfl (kX7_twentyOne hM hp (rB1_k S k _) (by omega) ⟨rfl, ?_⟩)
      refine V_imul dX7_gateMark_48 ?_
      refine V_ireturn dX7_gateMark_49 ⟨_, rfl, vp_nar_int _⟩ ?_
      rw [c33] at hQ
      exact hQ
  · skip
    refine V_ald0 dX7_gateMark_10 ?_
    refine V_bipush (v := nI 22) dX7_gateMark_11 (by decide) ?_
    refine V_iv1 dX7_gateMark_13 wlX7_262 mdX7_begins miX7_begins rfl (hM.1 0 (0, 7) rfl) rfl rfl (kX7_begins hM hk (by omega) ⟨rfl, ?_⟩)
    refine V_ald0 dX7_gateMark_16 ?_
    refine V_ild1 dX7_gateMark_17 ?_
    refine V_iv1 dX7_gateMark_18 wlX7_268 mdX7_twentyOne miX7_twentyOne rfl (hM.1 0 (0, 7) rfl) rfl rfl (kX7_twentyOne hM hp (rB1_k S k _) (by omega) ⟨rfl, ?_⟩)
    refine V_sipush (v := nI 1000) dX7_gateMark_21 (by decide) ?_
    refine V_isub dX7_gateMark_24 ?_
    refine V_ireturn dX7_gateMark_25 ⟨_, rfl, vp_nar_int _⟩ ?_
    rw [c7] at hQ
    exact hQ
theorem kX7_gateSize1 (hM : xMo Y G) {p : Nat} (hp : p < 8) {k : Nat} (hk : S 0 20 = nI k) (es : S 11 p = nI 1) (hk2 : k + 9 ≤ 16) (hQ : Q (some (xI (cSize (rowT S) p 1))) Y G (va_up N 40 (rApp S k (cSizeL 1)))) : V RX7 false cX7_gateSize 3 (some .int) none (d + 4) b 0 [some (xR 40 0), some (xI (nI p)), none] [] Y G (va_up N 40 S) Q := by
  refine V_ald0 dX7_gateSize_0 ?_
  refine V_getR dX7_gateSize_1 flX7_22 (hM.1 0 (0, 7) rfl) (show G 40 0 10 = some (40, 11) from hM.2 10 (1, 8) rfl) ?_
  refine V_ild1 dX7_gateSize_4 ?_
  refine V_iar dX7_gateSize_5 (hM.1 11 (1, 8) rfl) (by omega) (by decide) ?_
  refine V_eqI (show _ = nI 1 from es) ?_
  refine V_iconst (v := nI 2) dX7_gateSize_6 (by decide) ?_
  refine V_icmpneN (tgt := 16) dX7_gateSize_7 (by decide) (by omega) (by omega) (fun c7 => ?_) (fun c7 => ?_)
  · skip
    refine V_ald0 dX7_gateSize_16 ?_
    refine V_bipush (v := nI 11) dX7_gateSize_17 (by decide) ?_
    refine V_iv1 dX7_gateSize_19 wlX7_262 mdX7_begins miX7_begins rfl (hM.1 0 (0, 7) rfl) rfl rfl (kX7_begins hM hk (by omega) ⟨rfl, ?_⟩)
    refine V_ald0 dX7_gateSize_22 ?_
    refine V_ild1 dX7_gateSize_23 ?_
    refine V_iv1 dX7_gateSize_24 wlX7_271 mdX7_ten miX7_ten rfl (hM.1 0 (0, 7) rfl) rfl rfl (kX7_ten (S := rApp S k [nI 11]) hM hp (rApp_k [nI 11] S k hk) (by simp only [List.length_cons, List.length_nil]; omega) ⟨rfl, ?_⟩)
    refine V_ald0 dX7_gateSize_27 ?_
    refine V_ild1 dX7_gateSize_28 ?_
    refine V_iv1 dX7_gateSize_29 wlX7_274 mdX7_gateMark miX7_gateMark rfl (hM.1 0 (0, 7) rfl) rfl rfl (kX7_gateMark (S := rApp (rApp S k [nI 11]) (k + 1) [nI 10]) (s := 1) hM hp (rApp_k [nI 10] _ _ (rApp_k [nI 11] S k hk)) (by rw [rApp_no _ _ _ (by decide) (by decide), rApp_no _ _ _ (by decide) (by decide)]; exact es) (by omega) (by simp only [List.length_cons, List.length_nil]; omega) ⟨rfl, ?_⟩)
    rw [rowT_app, rowT_app]
    refine V_iadd dX7_gateSize_32 ?_
    refine V_ist2 dX7_gateSize_33 rfl ?_
    refine V_ald0 dX7_gateSize_34 ?_
    refine V_getR dX7_gateSize_35 flX7_22 (hM.1 0 (0, 7) rfl) (show G 40 0 10 = some (40, 11) from hM.2 10 (1, 8) rfl) ?_
    refine V_ild1 dX7_gateSize_38 ?_
    refine V_iar dX7_gateSize_39 (hM.1 11 (1, 8) rfl) (by omega) (by decide) ?_
    refine V_eqI (show _ = nI 1 by rw [rApp_no _ _ _ (by decide) (by decide), rApp_no _ _ _ (by decide) (by decide), rApp_no _ _ _ (by decide) (by decide)]; exact es) ?_
    refine V_iconst (v := nI 2) dX7_gateSize_40 (by decide) ?_
    refine V_icmpneN (tgt := 49) dX7_gateSize_41 (by decide) (by omega) (by omega) (fun c41 => ?_) (fun c41 => ?_)
    · skip
      refine V_ild2 dX7_gateSize_49 ?_
      refine V_ireturn dX7_gateSize_50 ⟨_, rfl, vp_nar_int _⟩ ?_
      exact hQ
    · exact absurd c41 (by decide)
  · exact absurd c7 (by decide)
theorem kX7_gateSize2 (hM : xMo Y G) {p : Nat} (hp : p < 8) {k : Nat} (hk : S 0 20 = nI k) (es : S 11 p = nI 2) (hk2 : k + 9 ≤ 16) (hQ : Q (some (xI (cSize (rowT S) p 2))) Y G (va_up N 40 (rApp S k (cSizeL 2)))) : V RX7 false cX7_gateSize 3 (some .int) none (d + 4) b 0 [some (xR 40 0), some (xI (nI p)), none] [] Y G (va_up N 40 S) Q := by
  refine V_ald0 dX7_gateSize_0 ?_
  refine V_getR dX7_gateSize_1 flX7_22 (hM.1 0 (0, 7) rfl) (show G 40 0 10 = some (40, 11) from hM.2 10 (1, 8) rfl) ?_
  refine V_ild1 dX7_gateSize_4 ?_
  refine V_iar dX7_gateSize_5 (hM.1 11 (1, 8) rfl) (by omega) (by decide) ?_
  refine V_eqI (show _ = nI 2 from es) ?_
  refine V_iconst (v := nI 2) dX7_gateSize_6 (by decide) ?_
  refine V_icmpneN (tgt := 16) dX7_gateSize_7 (by decide) (by omega) (by omega) (fun c7 => ?_) (fun c7 => ?_)
  · exact absurd rfl c7
  · skip
    refine V_ald0 dX7_gateSize_10 ?_
    refine V_bipush (v := nI 12) dX7_gateSize_11 (by decide) ?_
    refine V_iv1 dX7_gateSize_13 wlX7_262 mdX7_begins miX7_begins rfl (hM.1 0 (0, 7) rfl) rfl rfl (kX7_begins hM hk (by omega) ⟨rfl, ?_⟩)
    refine V_ald0 dX7_gateSize_16 ?_
    refine V_bipush (v := nI 11) dX7_gateSize_17 (by decide) ?_
    refine V_iv1 dX7_gateSize_19 wlX7_262 mdX7_begins miX7_begins rfl (hM.1 0 (0, 7) rfl) rfl rfl (kX7_begins hM (rB1_k S k _) (by omega) ⟨rfl, ?_⟩)
    refine V_ald0 dX7_gateSize_22 ?_
    refine V_ild1 dX7_gateSize_23 ?_
    refine V_iv1 dX7_gateSize_24 wlX7_271 mdX7_ten miX7_ten rfl (hM.1 0 (0, 7) rfl) rfl rfl (kX7_ten (S := rApp S k [nI 12, nI 11]) hM hp (rApp_k [nI 12, nI 11] S k hk) (by simp only [List.length_cons, List.length_nil]; omega) ⟨rfl, ?_⟩)
    refine V_ald0 dX7_gateSize_27 ?_
    refine V_ild1 dX7_gateSize_28 ?_
    refine V_iv1 dX7_gateSize_29 wlX7_274 mdX7_gateMark miX7_gateMark rfl (hM.1 0 (0, 7) rfl) rfl rfl (kX7_gateMark (S := rApp (rApp S k [nI 12, nI 11]) (k + 2) [nI 10]) (s := 2) hM hp (rApp_k [nI 10] _ _ (rApp_k [nI 12, nI 11] S k hk)) (by rw [rApp_no _ _ _ (by decide) (by decide), rApp_no _ _ _ (by decide) (by decide)]; exact es) (by omega) (by simp only [List.length_cons, List.length_nil]; omega) ⟨rfl, ?_⟩)
    rw [rowT_app, rowT_app]
    refine V_iadd dX7_gateSize_32 ?_
    refine V_ist2 dX7_gateSize_33 rfl ?_
    refine V_ald0 dX7_gateSize_34 ?_
    refine V_getR dX7_gateSize_35 flX7_22 (hM.1 0 (0, 7) rfl) (show G 40 0 10 = some (40, 11) from hM.2 10 (1, 8) rfl) ?_
    refine V_ild1 dX7_gateSize_38 ?_
    refine V_iar dX7_gateSize_39 (hM.1 11 (1, 8) rfl) (by omega) (by decide) ?_
    refine V_eqI (show _ = nI 2 by rw [rApp_no _ _ _ (by decide) (by decide), rApp_no _ _ _ (by decide) (by decide), rApp_no _ _ _ (by decide) (by decide)]; exact es) ?_
    refine V_iconst (v := nI 2) dX7_gateSize_40 (by decide) ?_
    refine V_icmpneN (tgt := 49) dX7_gateSize_41 (by decide) (by omega) (by omega) (fun c41 => ?_) (fun c41 => ?_)
    · exact absurd rfl c41
    · skip
      refine V_ild2 dX7_gateSize_44 ?_
      refine V_ineg dX7_gateSize_45 ?_
      refine V_goto (tgt := 50) dX7_gateSize_46 (by decide) ?_
      refine V_ireturn dX7_gateSize_50 ⟨_, rfl, vp_nar_int _⟩ ?_
      exact hQ
theorem kX7_gateSize3 (hM : xMo Y G) {p : Nat} (hp : p < 8) {k : Nat} (hk : S 0 20 = nI k) (es : S 11 p = nI 3) (hk2 : k + 9 ≤ 16) (hQ : Q (some (xI (cSize (rowT S) p 3))) Y G (va_up N 40 (rApp S k (cSizeL 3)))) : V RX7 false cX7_gateSize 3 (some .int) none (d + 4) b 0 [some (xR 40 0), some (xI (nI p)), none] [] Y G (va_up N 40 S) Q := by
  refine V_ald0 dX7_gateSize_0 ?_
  refine V_getR dX7_gateSize_1 flX7_22 (hM.1 0 (0, 7) rfl) (show G 40 0 10 = some (40, 11) from hM.2 10 (1, 8) rfl) ?_
  refine V_ild1 dX7_gateSize_4 ?_
  refine V_iar dX7_gateSize_5 (hM.1 11 (1, 8) rfl) (by omega) (by decide) ?_
  refine V_eqI (show _ = nI 3 from es) ?_
  refine V_iconst (v := nI 2) dX7_gateSize_6 (by decide) ?_
  refine V_icmpneN (tgt := 16) dX7_gateSize_7 (by decide) (by omega) (by omega) (fun c7 => ?_) (fun c7 => ?_)
  · skip
    refine V_ald0 dX7_gateSize_16 ?_
    refine V_bipush (v := nI 11) dX7_gateSize_17 (by decide) ?_
    refine V_iv1 dX7_gateSize_19 wlX7_262 mdX7_begins miX7_begins rfl (hM.1 0 (0, 7) rfl) rfl rfl (kX7_begins hM hk (by omega) ⟨rfl, ?_⟩)
    refine V_ald0 dX7_gateSize_22 ?_
    refine V_ild1 dX7_gateSize_23 ?_
    refine V_iv1 dX7_gateSize_24 wlX7_271 mdX7_ten miX7_ten rfl (hM.1 0 (0, 7) rfl) rfl rfl (kX7_ten (S := rApp S k [nI 11]) hM hp (rApp_k [nI 11] S k hk) (by simp only [List.length_cons, List.length_nil]; omega) ⟨rfl, ?_⟩)
    refine V_ald0 dX7_gateSize_27 ?_
    refine V_ild1 dX7_gateSize_28 ?_
    refine V_iv1 dX7_gateSize_29 wlX7_274 mdX7_gateMark miX7_gateMark rfl (hM.1 0 (0, 7) rfl) rfl rfl (kX7_gateMark (S := rApp (rApp S k [nI 11]) (k + 1) [nI 10]) (s := 3) hM hp (rApp_k [nI 10] _ _ (rApp_k [nI 11] S k hk)) (by rw [rApp_no _ _ _ (by decide) (by decide), rApp_no _ _ _ (by decide) (by decide)]; exact es) (by omega) (by simp only [List.length_cons, List.length_nil]; omega) ⟨rfl, ?_⟩)
    rw [rowT_app, rowT_app]
    refine V_iadd dX7_gateSize_32 ?_
    refine V_ist2 dX7_gateSize_33 rfl ?_
    refine V_ald0 dX7_gateSize_34 ?_
    refine V_getR dX7_gateSize_35 flX7_22 (hM.1 0 (0, 7) rfl) (show G 40 0 10 = some (40, 11) from hM.2 10 (1, 8) rfl) ?_
    refine V_ild1 dX7_gateSize_38 ?_
    refine V_iar dX7_gateSize_39 (hM.1 11 (1, 8) rfl) (by omega) (by decide) ?_
    refine V_eqI (show _ = nI 3 by rw [rApp_no _ _ _ (by decide) (by decide), rApp_no _ _ _ (by decide) (by decide), rApp_no _ _ _ (by decide) (by decide)]; exact es) ?_
    refine V_iconst (v := nI 2) dX7_gateSize_40 (by decide) ?_
    refine V_icmpneN (tgt := 49) dX7_gateSize_41 (by decide) (by omega) (by omega) (fun c41 => ?_) (fun c41 => ?_)
    · skip
      refine V_ild2 dX7_gateSize_49 ?_
      refine V_ireturn dX7_gateSize_50 ⟨_, rfl, vp_nar_int _⟩ ?_
      exact hQ
    · exact absurd c41 (by decide)
  · exact absurd c7 (by decide)
theorem kX7_sillSize4 (hM : xMo Y G) {p : Nat} (hp : p < 8) {k : Nat} (hk : S 0 20 = nI k) (es : S 11 p = nI 4) (hk2 : k + 9 ≤ 16) (hQ : Q (some (xI (cSize (rowT S) p 4))) Y G (va_up N 40 (rApp S k (cSizeL 4)))) : V RX7 false cX7_sillSize 3 (some .int) none (d + 4) b 0 [some (xR 40 0), some (xI (nI p)), none] [] Y G (va_up N 40 S) Q := by
  refine V_ald0 dX7_sillSize_0 ?_
  refine V_getR dX7_sillSize_1 flX7_22 (hM.1 0 (0, 7) rfl) (show G 40 0 10 = some (40, 11) from hM.2 10 (1, 8) rfl) ?_
  refine V_ild1 dX7_sillSize_4 ?_
  refine V_iar dX7_sillSize_5 (hM.1 11 (1, 8) rfl) (by omega) (by decide) ?_
  refine V_eqI (show _ = nI 4 from es) ?_
  refine V_iconst (v := nI 5) dX7_sillSize_6 (by decide) ?_
  refine V_icmpneN (tgt := 16) dX7_sillSize_7 (by decide) (by omega) (by omega) (fun c7 => ?_) (fun c7 => ?_)
  · skip
    refine V_ald0 dX7_sillSize_16 ?_
    refine V_bipush (v := nI 13) dX7_sillSize_17 (by decide) ?_
    refine V_iv1 dX7_sillSize_19 wlX7_262 mdX7_begins miX7_begins rfl (hM.1 0 (0, 7) rfl) rfl rfl (kX7_begins hM hk (by omega) ⟨rfl, ?_⟩)
    refine V_ald0 dX7_sillSize_22 ?_
    refine V_ild1 dX7_sillSize_23 ?_
    refine V_iv1 dX7_sillSize_24 wlX7_271 mdX7_ten miX7_ten rfl (hM.1 0 (0, 7) rfl) rfl rfl (kX7_ten (S := rApp S k [nI 13]) hM hp (rApp_k [nI 13] S k hk) (by simp only [List.length_cons, List.length_nil]; omega) ⟨rfl, ?_⟩)
    rw [rowT_app]
    refine V_bipush (v := nI 100) dX7_sillSize_27 (by decide) ?_
    refine V_isub dX7_sillSize_29 ?_
    refine V_ist2 dX7_sillSize_30 rfl ?_
    refine V_ald0 dX7_sillSize_31 ?_
    refine V_getR dX7_sillSize_32 flX7_22 (hM.1 0 (0, 7) rfl) (show G 40 0 10 = some (40, 11) from hM.2 10 (1, 8) rfl) ?_
    refine V_ild1 dX7_sillSize_35 ?_
    refine V_iar dX7_sillSize_36 (hM.1 11 (1, 8) rfl) (by omega) (by decide) ?_
    refine V_eqI (show _ = nI 4 by rw [rApp_no _ _ _ (by decide) (by decide), rApp_no _ _ _ (by decide) (by decide)]; exact es) ?_
    refine V_iconst (v := nI 5) dX7_sillSize_37 (by decide) ?_
    refine V_icmpneN (tgt := 47) dX7_sillSize_38 (by decide) (by omega) (by omega) (fun c38 => ?_) (fun c38 => ?_)
    · skip
      refine V_ild2 dX7_sillSize_47 ?_
      refine V_ireturn dX7_sillSize_48 ⟨_, rfl, vp_nar_int _⟩ ?_
      exact hQ
    · exact absurd c38 (by decide)
  · exact absurd c7 (by decide)
theorem kX7_sillMark4 (hM : xMo Y G) {p : Nat} (hp : p < 8) {k : Nat} (hk : S 0 20 = nI k) (es : S 11 p = nI 4) (hk2 : k + 11 ≤ 16) (hQ : Q (some (xI (cMark (rowT S) p 4))) Y G (va_up N 40 (rApp S k (cMarkL 4)))) : V RX7 false cX7_sillMark 3 (some .int) none (d + 5) b 0 [some (xR 40 0), some (xI (nI p)), none] [] Y G (va_up N 40 S) Q := by
  refine V_ald0 dX7_sillMark_0 ?_
  refine V_bipush (v := nI 23) dX7_sillMark_1 (by decide) ?_
  refine V_iv1 dX7_sillMark_3 wlX7_262 mdX7_begins miX7_begins rfl (hM.1 0 (0, 7) rfl) rfl rfl (kX7_begins hM hk (by omega) ⟨rfl, ?_⟩)
  refine V_ald0 dX7_sillMark_6 ?_
  refine V_ild1 dX7_sillMark_7 ?_
  refine V_iv1 dX7_sillMark_8 wlX7_265 mdX7_twenty miX7_twenty rfl (hM.1 0 (0, 7) rfl) rfl rfl (kX7_twenty (S := rApp S k [nI 23]) hM hp (rApp_k [nI 23] S k hk) (by simp only [List.length_cons, List.length_nil]; omega) ⟨rfl, ?_⟩)
  refine V_ist2 dX7_sillMark_11 rfl ?_
  refine V_ild2 dX7_sillMark_12 ?_
  refine V_ald0 dX7_sillMark_13 ?_
  refine V_ild1 dX7_sillMark_14 ?_
  refine V_iv1 dX7_sillMark_15 wlX7_277 mdX7_sillSize miX7_sillSize rfl (hM.1 0 (0, 7) rfl) rfl rfl (kX7_sillSize4 (S := rApp (rApp S k [nI 23]) (k + 1) [nI 20]) hM hp (rApp_k [nI 20] _ _ (rApp_k [nI 23] S k hk)) (by rw [rApp_no _ _ _ (by decide) (by decide), rApp_no _ _ _ (by decide) (by decide)]; exact es) (by simp only [List.length_cons, List.length_nil]; omega) ⟨rfl, ?_⟩)
  rw [rowT_app, rowT_app]
  refine V_isub dX7_sillMark_18 ?_
  refine V_ireturn dX7_sillMark_19 ⟨_, rfl, vp_nar_int _⟩ ?_
  exact hQ
theorem kX7_sillSize5 (hM : xMo Y G) {p : Nat} (hp : p < 8) {k : Nat} (hk : S 0 20 = nI k) (es : S 11 p = nI 5) (hk2 : k + 9 ≤ 16) (hQ : Q (some (xI (cSize (rowT S) p 5))) Y G (va_up N 40 (rApp S k (cSizeL 5)))) : V RX7 false cX7_sillSize 3 (some .int) none (d + 4) b 0 [some (xR 40 0), some (xI (nI p)), none] [] Y G (va_up N 40 S) Q := by
  refine V_ald0 dX7_sillSize_0 ?_
  refine V_getR dX7_sillSize_1 flX7_22 (hM.1 0 (0, 7) rfl) (show G 40 0 10 = some (40, 11) from hM.2 10 (1, 8) rfl) ?_
  refine V_ild1 dX7_sillSize_4 ?_
  refine V_iar dX7_sillSize_5 (hM.1 11 (1, 8) rfl) (by omega) (by decide) ?_
  refine V_eqI (show _ = nI 5 from es) ?_
  refine V_iconst (v := nI 5) dX7_sillSize_6 (by decide) ?_
  refine V_icmpneN (tgt := 16) dX7_sillSize_7 (by decide) (by omega) (by omega) (fun c7 => ?_) (fun c7 => ?_)
  · exact absurd rfl c7
  · skip
    refine V_ald0 dX7_sillSize_10 ?_
    refine V_bipush (v := nI 14) dX7_sillSize_11 (by decide) ?_
    refine V_iv1 dX7_sillSize_13 wlX7_262 mdX7_begins miX7_begins rfl (hM.1 0 (0, 7) rfl) rfl rfl (kX7_begins hM hk (by omega) ⟨rfl, ?_⟩)
    refine V_ald0 dX7_sillSize_16 ?_
    refine V_bipush (v := nI 13) dX7_sillSize_17 (by decide) ?_
    refine V_iv1 dX7_sillSize_19 wlX7_262 mdX7_begins miX7_begins rfl (hM.1 0 (0, 7) rfl) rfl rfl (kX7_begins hM (rB1_k S k _) (by omega) ⟨rfl, ?_⟩)
    refine V_ald0 dX7_sillSize_22 ?_
    refine V_ild1 dX7_sillSize_23 ?_
    refine V_iv1 dX7_sillSize_24 wlX7_271 mdX7_ten miX7_ten rfl (hM.1 0 (0, 7) rfl) rfl rfl (kX7_ten (S := rApp S k [nI 14, nI 13]) hM hp (rApp_k [nI 14, nI 13] S k hk) (by simp only [List.length_cons, List.length_nil]; omega) ⟨rfl, ?_⟩)
    rw [rowT_app]
    refine V_bipush (v := nI 100) dX7_sillSize_27 (by decide) ?_
    refine V_isub dX7_sillSize_29 ?_
    refine V_ist2 dX7_sillSize_30 rfl ?_
    refine V_ald0 dX7_sillSize_31 ?_
    refine V_getR dX7_sillSize_32 flX7_22 (hM.1 0 (0, 7) rfl) (show G 40 0 10 = some (40, 11) from hM.2 10 (1, 8) rfl) ?_
    refine V_ild1 dX7_sillSize_35 ?_
    refine V_iar dX7_sillSize_36 (hM.1 11 (1, 8) rfl) (by omega) (by decide) ?_
    refine V_eqI (show _ = nI 5 by rw [rApp_no _ _ _ (by decide) (by decide), rApp_no _ _ _ (by decide) (by decide)]; exact es) ?_
    refine V_iconst (v := nI 5) dX7_sillSize_37 (by decide) ?_
    refine V_icmpneN (tgt := 47) dX7_sillSize_38 (by decide) (by omega) (by omega) (fun c38 => ?_) (fun c38 => ?_)
    · exact absurd rfl c38
    · skip
      refine V_iconst (v := nI 2) dX7_sillSize_41 (by decide) ?_
      refine V_ild2 dX7_sillSize_42 ?_
      refine V_imul dX7_sillSize_43 ?_
      refine V_goto (tgt := 48) dX7_sillSize_44 (by decide) ?_
      refine V_ireturn dX7_sillSize_48 ⟨_, rfl, vp_nar_int _⟩ ?_
      exact hQ
theorem kX7_sillMark5 (hM : xMo Y G) {p : Nat} (hp : p < 8) {k : Nat} (hk : S 0 20 = nI k) (es : S 11 p = nI 5) (hk2 : k + 11 ≤ 16) (hQ : Q (some (xI (cMark (rowT S) p 5))) Y G (va_up N 40 (rApp S k (cMarkL 5)))) : V RX7 false cX7_sillMark 3 (some .int) none (d + 5) b 0 [some (xR 40 0), some (xI (nI p)), none] [] Y G (va_up N 40 S) Q := by
  refine V_ald0 dX7_sillMark_0 ?_
  refine V_bipush (v := nI 23) dX7_sillMark_1 (by decide) ?_
  refine V_iv1 dX7_sillMark_3 wlX7_262 mdX7_begins miX7_begins rfl (hM.1 0 (0, 7) rfl) rfl rfl (kX7_begins hM hk (by omega) ⟨rfl, ?_⟩)
  refine V_ald0 dX7_sillMark_6 ?_
  refine V_ild1 dX7_sillMark_7 ?_
  refine V_iv1 dX7_sillMark_8 wlX7_265 mdX7_twenty miX7_twenty rfl (hM.1 0 (0, 7) rfl) rfl rfl (kX7_twenty (S := rApp S k [nI 23]) hM hp (rApp_k [nI 23] S k hk) (by simp only [List.length_cons, List.length_nil]; omega) ⟨rfl, ?_⟩)
  refine V_ist2 dX7_sillMark_11 rfl ?_
  refine V_ild2 dX7_sillMark_12 ?_
  refine V_ald0 dX7_sillMark_13 ?_
  refine V_ild1 dX7_sillMark_14 ?_
  refine V_iv1 dX7_sillMark_15 wlX7_277 mdX7_sillSize miX7_sillSize rfl (hM.1 0 (0, 7) rfl) rfl rfl (kX7_sillSize5 (S := rApp (rApp S k [nI 23]) (k + 1) [nI 20]) hM hp (rApp_k [nI 20] _ _ (rApp_k [nI 23] S k hk)) (by rw [rApp_no _ _ _ (by decide) (by decide), rApp_no _ _ _ (by decide) (by decide)]; exact es) (by simp only [List.length_cons, List.length_nil]; omega) ⟨rfl, ?_⟩)
  rw [rowT_app, rowT_app]
  refine V_isub dX7_sillMark_18 ?_
  refine V_ireturn dX7_sillMark_19 ⟨_, rfl, vp_nar_int _⟩ ?_
  exact hQ
theorem kX7_ask (hM : xMo Y G) {mb pn : Nat} (hr : rSt S mb pn) (hso : ∀ p, p < pn → ∃ s, 1 ≤ s ∧ s ≤ 5 ∧ S 11 p = nI s) {a y : Int32} (hB : ¬ (rIn a (nI 0) (nI pn - nI 1) ∧ rIn y (nI 0) (nI 1)) → Q (some (xI (-1000001))) Y G (va_up N 40 S)) (hO : ∀ p s, rIn a (nI 0) (nI pn - nI 1) ∧ rIn y (nI 0) (nI 1) → a = nI p → p < pn → S 11 p = nI s → 1 ≤ s → s ≤ 5 → Q (some (xI (cAsk (rowT S) p s y))) Y G (va_up N 40 (rApp (va_up S 0 (upd (S 0) 20 (nI 0))) 0 (cAskL s y)))) : V RX7 false cX7_ask 3 (some .int) none (d + 6) b 0 [some (xR 40 0), some (xI a), some (xI y)] [] Y G (va_up N 40 S) Q := by
  refine V_ald0 dX7_ask_0 ?_
  refine V_ild1 dX7_ask_1 ?_
  refine V_iv1 dX7_ask_2 wlX7_189 mdX7_isPiece miX7_isPiece rfl (hM.1 0 (0, 7) rfl) rfl rfl (kX7_isPiece hM ⟨rfl, ?_⟩)
  rw [hr.2.1]
  refine V_ifeqB (tgt := 17) dX7_ask_5 (by decide) (fun c5 => ?_) (fun c5 => ?_)
  · skip
    refine V_ldc dX7_ask_17 wkX7_84 ?_
    refine V_ireturn dX7_ask_19 ⟨_, rfl, vp_nar_int _⟩ ?_
    exact hB (fun h => c5 h.1)
  · skip
    refine V_ild2 dX7_ask_8 ?_
    refine V_iconst (v := nI 0) dX7_ask_9 (by decide) ?_
    refine V_iconst (v := nI 1) dX7_ask_10 (by decide) ?_
    refine V_is3 dX7_ask_11 wlX7_70 mdX7_in msX7_in rfl rfl (kX7_in ⟨rfl, ?_⟩)
    refine V_ifneB (tgt := 20) dX7_ask_14 (by decide) (fun c14 => ?_) (fun c14 => ?_)
    · skip
      obtain ⟨p, hp, rfl⟩ := rIn_m c5 (by have := hr.b6; omega)
      have hb := hr.b6
      obtain ⟨s, hs1, hs5, es⟩ := hso p hp
      have es2 : (va_up S 0 (upd (S 0) 20 (nI 0))) 11 p = nI s := es
      have hk0 : (va_up S 0 (upd (S 0) 20 (nI 0))) 0 20 = nI 0 := rfl
      have hQ := hO p s ⟨c5, c14⟩ rfl hp es hs1 hs5
      unfold cAsk cAskL at hQ
      refine V_ald0 dX7_ask_20 ?_
      refine V_iconst (v := nI 0) dX7_ask_21 (by decide) ?_
      refine V_putIr dX7_ask_22 fwX7_259 (hM.1 0 (0, 7) rfl) ?_
      refine V_ald0 dX7_ask_25 ?_
      refine V_getR dX7_ask_26 flX7_22 (hM.1 0 (0, 7) rfl) (show G 40 0 10 = some (40, 11) from hM.2 10 (1, 8) rfl) ?_
      refine V_ild1 dX7_ask_29 ?_
      refine V_iar dX7_ask_30 (hM.1 11 (1, 8) rfl) (by omega) (by decide) ?_
      refine V_eqI (show _ = nI s from es) ?_
      refine V_iconst (v := nI 4) dX7_ask_31 (by decide) ?_
      refine V_icmpgeN (tgt := 53) dX7_ask_32 (by decide) (by omega) (by omega) (fun c32 => ?_) (fun c32 => ?_)
      · skip
        refine V_ild2 dX7_ask_53 ?_
        refine V_ifne (tgt := 65) dX7_ask_54 (by decide) (fun c54 => ?_) (fun c54 => ?_)
        · skip
          refine V_ald0 dX7_ask_65 ?_
          refine V_ild1 dX7_ask_66 ?_
          rw [if_neg c54, if_neg c54] at hQ
          obtain rfl | rfl : s = 4 ∨ s = 5 := by omega
          · skip
            refine V_iv1 dX7_ask_67 wlX7_283 mdX7_sillMark miX7_sillMark rfl (hM.1 0 (0, 7) rfl) rfl rfl (kX7_sillMark4 hM (by omega) hk0 es2 (by decide) ⟨rfl, ?_⟩)
            refine V_ireturn dX7_ask_70 ⟨_, rfl, vp_nar_int _⟩ ?_
            exact hQ
          · skip
            refine V_iv1 dX7_ask_67 wlX7_283 mdX7_sillMark miX7_sillMark rfl (hM.1 0 (0, 7) rfl) rfl rfl (kX7_sillMark5 hM (by omega) hk0 es2 (by decide) ⟨rfl, ?_⟩)
            refine V_ireturn dX7_ask_70 ⟨_, rfl, vp_nar_int _⟩ ?_
            exact hQ
        · skip
          refine V_ald0 dX7_ask_57 ?_
          refine V_ild1 dX7_ask_58 ?_
          rw [if_pos c54, if_pos c54] at hQ
          obtain rfl | rfl : s = 4 ∨ s = 5 := by omega
          · skip
            refine V_iv1 dX7_ask_59 wlX7_277 mdX7_sillSize miX7_sillSize rfl (hM.1 0 (0, 7) rfl) rfl rfl (kX7_sillSize4 hM (by omega) hk0 es2 (by decide) ⟨rfl, ?_⟩)
            refine V_goto (tgt := 70) dX7_ask_62 (by decide) ?_
            refine V_ireturn dX7_ask_70 ⟨_, rfl, vp_nar_int _⟩ ?_
            exact hQ
          · skip
            refine V_iv1 dX7_ask_59 wlX7_277 mdX7_sillSize miX7_sillSize rfl (hM.1 0 (0, 7) rfl) rfl rfl (kX7_sillSize5 hM (by omega) hk0 es2 (by decide) ⟨rfl, ?_⟩)
            refine V_goto (tgt := 70) dX7_ask_62 (by decide) ?_
            refine V_ireturn dX7_ask_70 ⟨_, rfl, vp_nar_int _⟩ ?_
            exact hQ
      · skip
        refine V_ild2 dX7_ask_35 ?_
        refine V_ifne (tgt := 47) dX7_ask_36 (by decide) (fun c36 => ?_) (fun c36 => ?_)
        · skip
          refine V_ald0 dX7_ask_47 ?_
          refine V_ild1 dX7_ask_48 ?_
          rw [if_neg c36, if_neg c36] at hQ
          refine V_iv1 dX7_ask_49 wlX7_274 mdX7_gateMark miX7_gateMark rfl (hM.1 0 (0, 7) rfl) rfl rfl (kX7_gateMark hM (by omega) hk0 es2 (by omega) (by omega) ⟨rfl, ?_⟩)
          refine V_ireturn dX7_ask_52 ⟨_, rfl, vp_nar_int _⟩ ?_
          exact hQ
        · skip
          refine V_ald0 dX7_ask_39 ?_
          refine V_ild1 dX7_ask_40 ?_
          rw [if_pos c36, if_pos c36] at hQ
          obtain rfl | rfl | rfl : s = 1 ∨ s = 2 ∨ s = 3 := by omega
          · skip
            refine V_iv1 dX7_ask_41 wlX7_280 mdX7_gateSize miX7_gateSize rfl (hM.1 0 (0, 7) rfl) rfl rfl (kX7_gateSize1 hM (by omega) hk0 es2 (by decide) ⟨rfl, ?_⟩)
            refine V_goto (tgt := 52) dX7_ask_44 (by decide) ?_
            refine V_ireturn dX7_ask_52 ⟨_, rfl, vp_nar_int _⟩ ?_
            exact hQ
          · skip
            refine V_iv1 dX7_ask_41 wlX7_280 mdX7_gateSize miX7_gateSize rfl (hM.1 0 (0, 7) rfl) rfl rfl (kX7_gateSize2 hM (by omega) hk0 es2 (by decide) ⟨rfl, ?_⟩)
            refine V_goto (tgt := 52) dX7_ask_44 (by decide) ?_
            refine V_ireturn dX7_ask_52 ⟨_, rfl, vp_nar_int _⟩ ?_
            exact hQ
          · skip
            refine V_iv1 dX7_ask_41 wlX7_280 mdX7_gateSize miX7_gateSize rfl (hM.1 0 (0, 7) rfl) rfl rfl (kX7_gateSize3 hM (by omega) hk0 es2 (by decide) ⟨rfl, ?_⟩)
            refine V_goto (tgt := 52) dX7_ask_44 (by decide) ?_
            refine V_ireturn dX7_ask_52 ⟨_, rfl, vp_nar_int _⟩ ?_
            exact hQ
    · skip
      refine V_ldc dX7_ask_17 wkX7_84 ?_
      refine V_ireturn dX7_ask_19 ⟨_, rfl, vp_nar_int _⟩ ?_
      exact hB (fun h => c14 h.2)
end KM
