abbrev rIsA (s k : Int32) : Prop := k = 0 ∨ k = s ∨ (k = nI 1 ∧ s < nI 4) ∨ (k = nI 4 ∧ s = nI 5)
def rCnt (S : xT) (mb pn : Nat) (y : Int32) : Int32 := if y = nI (0 + 0) then rRows (S 2) 8 else if y = nI (0 + 1) then nI pn else if y = nI (0 + 2) then nI mb else if y = nI (0 + 3) then S 13 0 else if y = nI (0 + 4) then rBits (rThose (S 13) (nI 0) (nI 7) mb) 8 else if y = nI (0 + 5) then rWentA (S 13) pn else if y = nI (0 + 6) then S 0 14 else if y = nI (0 + 7) then S 0 5 else -1000001
def rPce (S : xT) (mb p : Nat) (y : Int32) : Int32 := if y = nI (0 + 0) then S 13 (1 + p) else if y = nI (0 + 1) then S 13 (9 + p) else if y = nI (0 + 2) then S 13 (17 + p) else if y = nI (0 + 3) then S 13 (25 + p) else if y = nI (0 + 4) then S 13 (33 + p) else if y = nI (0 + 5) then S 13 (41 + p) else if y = nI (0 + 6) then rThose (S 13) (nI p) (nI p) mb else -1000001
def rStd (S : xT) (mb : Nat) (y : Int32) : Int32 := if y = nI (0 + 0) then S 0 7 else if y = nI (0 + 1) then rThose (S 13) (nI 10) (nI 10) mb else if y = nI (0 + 2) then rThose (S 13) (nI 0) (nI 7) mb else if y = nI (0 + 3) then rThose (S 13) (nI 20) (nI 28) mb else if y = nI (0 + 4) then rThose (S 13) (nI 8) (nI 8) mb else if y = nI (0 + 5) then rThose (S 13) (nI 9) (nI 9) mb else -1000001
def rMrb (S : xT) (m : Nat) (y : Int32) : Int32 := if y = 0 then S 13 (55 + m) else if y = nI 1 then S 13 (61 + m) else S 13 (49 + m)
section KM
variable {d : Nat} {b : Nat × Nat} {Y : xY} {G : xG} {N : xM} {S : xT} {f : Nat → Int32} {Q : Option xAV → xY → xG → xM → Prop} {c : Nat}
theorem kX7_kind (hM : xMo Y G) {mb pn : Nat} (hr : rSt S mb pn) {a v : Int32} (hv : ∀ p, a = nI p → p < pn → S 11 p = v) (hQ : Q (some (xI (if rIn a (nI 0) (nI pn - nI 1) then v else -1000001))) Y G (va_up N 40 S)) : V RX7 false cX7_kind 2 (some .int) none (d + 2) b 0 [some (xR 40 0), some (xI a)] [] Y G (va_up N 40 S) Q := by
  refine V_ald0 dX7_kind_0 ?_
  refine V_ild1 dX7_kind_1 ?_
  refine V_iv1 dX7_kind_2 wlX7_189 mdX7_isPiece miX7_isPiece rfl (hM.1 0 (0, 7) rfl) rfl rfl (kX7_isPiece hM ⟨rfl, ?_⟩)
  rw [hr.2.1]
  refine V_ifeqB (tgt := 17) dX7_kind_5 (by decide) (fun c5 => ?_) (fun c5 => ?_)
  · skip
    refine V_ldc dX7_kind_17 wkX7_84 ?_
    refine V_ireturn dX7_kind_19 ⟨_, rfl, vp_nar_int _⟩ ?_
    rw [if_neg c5] at hQ
    exact hQ
  · skip
    obtain ⟨p, hp, rfl⟩ := rIn_m c5 (by have := hr.b6; omega)
    have hb := hr.b6
    refine V_ald0 dX7_kind_8 ?_
    refine V_getR dX7_kind_9 flX7_22 (hM.1 0 (0, 7) rfl) (show G 40 0 10 = some (40, 11) from hM.2 10 (1, 8) rfl) ?_
    refine V_ild1 dX7_kind_12 ?_
    refine V_iar dX7_kind_13 (hM.1 11 (1, 8) rfl) (by omega) (by decide) ?_
    refine V_goto (tgt := 19) dX7_kind_14 (by decide) ?_
    refine V_ireturn dX7_kind_19 ⟨_, rfl, vp_nar_int _⟩ ?_
    rw [if_pos c5, ← hv p rfl hp] at hQ
    exact hQ
theorem kX7_status (hM : xMo Y G) (hQ : Q (some (xI (S 0 3))) Y G (va_up N 40 S)) : V RX7 false cX7_status 1 (some .int) none d b 0 [some (xR 40 0)] [] Y G (va_up N 40 S) Q := by
  refine V_ald0 dX7_status_0 ?_
  refine V_getIr dX7_status_1 flX7_65 (hM.1 0 (0, 7) rfl) ?_
  refine V_ireturn dX7_status_4 ⟨_, rfl, vp_nar_int _⟩ ?_
  exact hQ
theorem kX7_fault (hM : xMo Y G) (hQ : Q (some (xI (S 0 6))) Y G (va_up N 40 S)) : V RX7 false cX7_fault 1 (some .int) none d b 0 [some (xR 40 0)] [] Y G (va_up N 40 S) Q := by
  refine V_ald0 dX7_fault_0 ?_
  refine V_getIr dX7_fault_1 flX7_148 (hM.1 0 (0, 7) rfl) ?_
  refine V_ireturn dX7_fault_4 ⟨_, rfl, vp_nar_int _⟩ ?_
  exact hQ
theorem kX7_trace (hM : xMo Y G) {tn : Nat} (htn : S 0 20 = nI tn) (ht : tn ≤ 16) {a v : Int32} (hv : ∀ p, a = nI p → p < tn → S 20 p = v) (hQ : Q (some (xI (if rIn a (nI 0) (nI tn - nI 1) then v else -1000000))) Y G (va_up N 40 S)) : V RX7 false cX7_trace 2 (some .int) none (d + 1) b 0 [some (xR 40 0), some (xI a)] [] Y G (va_up N 40 S) Q := by
  refine V_ild1 dX7_trace_0 ?_
  refine V_iconst (v := nI 0) dX7_trace_1 (by decide) ?_
  refine V_ald0 dX7_trace_2 ?_
  refine V_getIr dX7_trace_3 flX7_259 (hM.1 0 (0, 7) rfl) ?_
  refine V_eqI htn ?_
  refine V_iconst (v := nI 1) dX7_trace_6 (by decide) ?_
  refine V_isub dX7_trace_7 ?_
  refine V_is3 dX7_trace_8 wlX7_70 mdX7_in msX7_in rfl rfl (kX7_in ⟨rfl, ?_⟩)
  refine V_ifeqB (tgt := 23) dX7_trace_11 (by decide) (fun c11 => ?_) (fun c11 => ?_)
  · skip
    refine V_ldc dX7_trace_23 wkX7_135 ?_
    refine V_ireturn dX7_trace_25 ⟨_, rfl, vp_nar_int _⟩ ?_
    rw [if_neg c11] at hQ
    exact hQ
  · skip
    obtain ⟨p, hp, rfl⟩ := rIn_m c11 (by omega)
    refine V_ald0 dX7_trace_14 ?_
    refine V_getR dX7_trace_15 flX7_44 (hM.1 0 (0, 7) rfl) (show G 40 0 19 = some (40, 20) from hM.2 19 (1, 16) rfl) ?_
    refine V_ild1 dX7_trace_18 ?_
    refine V_iar dX7_trace_19 (hM.1 20 (1, 16) rfl) (by omega) (by decide) ?_
    refine V_goto (tgt := 25) dX7_trace_20 (by decide) ?_
    refine V_ireturn dX7_trace_25 ⟨_, rfl, vp_nar_int _⟩ ?_
    rw [if_pos c11, ← hv p rfl hp] at hQ
    exact hQ
theorem kX7_count (hM : xMo Y G) {mb pn : Nat} (hr : rSt S mb pn) {y : Int32} (hQ : Q (some (xI (rCnt S mb pn y))) Y G (va_up N 40 S)) : V RX7 false cX7_count 2 (some .int) none (d + 2) b 0 [some (xR 40 0), some (xI y)] [] Y G (va_up N 40 S) Q := by
  refine V_ild1 dX7_count_0 ?_
  refine V_tsw8 (lo := 0) (t0 := 48) (t1 := 53) (t2 := 58) (t3 := 63) (t4 := 70) (t5 := 85) (t6 := 90) (t7 := 95) (td := 100) dX7_count_1 (by decide) (by decide) (by decide) (by decide) (by decide) (by decide) (by decide) (by decide) (by decide) (fun s1 => ?_) (fun s1 => ?_) (fun s1 => ?_) (fun s1 => ?_) (fun s1 => ?_) (fun s1 => ?_) (fun s1 => ?_) (fun s1 => ?_) (fun s1_0 s1_1 s1_2 s1_3 s1_4 s1_5 s1_6 s1_7 => ?_)
  · skip
    refine V_ald0 dX7_count_48 ?_
    refine V_iv0 dX7_count_49 wlX7_286 mdX7_rowsThere miX7_rowsThere rfl (hM.1 0 (0, 7) rfl) rfl rfl (kX7_rowsThere hM ⟨rfl, ?_⟩)
    refine V_ireturn dX7_count_52 ⟨_, rfl, vp_nar_int _⟩ ?_
    rw [rCnt, if_pos s1] at hQ
    exact hQ
  · skip
    refine V_ald0 dX7_count_53 ?_
    refine V_getIr dX7_count_54 flX7_77 (hM.1 0 (0, 7) rfl) ?_
    refine V_eqI hr.2.1 ?_
    refine V_ireturn dX7_count_57 ⟨_, rfl, vp_nar_int _⟩ ?_
    rw [rCnt, if_neg (fun e => xne s1 e (by decide)), if_pos s1] at hQ
    exact hQ
  · skip
    refine V_ald0 dX7_count_58 ?_
    refine V_getIr dX7_count_59 flX7_74 (hM.1 0 (0, 7) rfl) ?_
    refine V_eqI hr.1 ?_
    refine V_ireturn dX7_count_62 ⟨_, rfl, vp_nar_int _⟩ ?_
    rw [rCnt, if_neg (fun e => xne s1 e (by decide)), if_neg (fun e => xne s1 e (by decide)), if_pos s1] at hQ
    exact hQ
  · skip
    refine V_ald0 dX7_count_63 ?_
    refine V_getR dX7_count_64 flX7_25 (hM.1 0 (0, 7) rfl) (show G 40 0 12 = some (40, 13) from hM.2 12 (1, 67) rfl) ?_
    refine V_iconst (v := nI 0) dX7_count_67 (by decide) ?_
    refine V_iar dX7_count_68 (hM.1 13 (1, 67) rfl) (by omega) (by decide) ?_
    refine V_ireturn dX7_count_69 ⟨_, rfl, vp_nar_int _⟩ ?_
    rw [rCnt, if_neg (fun e => xne s1 e (by decide)), if_neg (fun e => xne s1 e (by decide)), if_neg (fun e => xne s1 e (by decide)), if_pos s1] at hQ
    exact hQ
  · skip
    refine V_ald0 dX7_count_70 ?_
    refine V_ald0 dX7_count_71 ?_
    refine V_getR dX7_count_72 flX7_25 (hM.1 0 (0, 7) rfl) (show G 40 0 12 = some (40, 13) from hM.2 12 (1, 67) rfl) ?_
    refine V_iconst (v := nI 0) dX7_count_75 (by decide) ?_
    refine V_bipush (v := nI 7) dX7_count_76 (by decide) ?_
    refine V_sub 40 13 ?_
    refine V_iv3 dX7_count_78 wlX7_185 mdX7_those miX7_those rfl (hM.1 0 (0, 7) rfl) rfl rfl (kX7_those (c := 13) (f := S 13) hM (by decide) (hM.1 13 (1, 67) rfl) (show S 0 8 = nI mb from hr.1) hr.b6.1 ⟨rfl, ?_⟩)
    rw [va_up_id]
    refine V_is1 dX7_count_81 wlX7_217 mdX7_bits msX7_bits rfl rfl (kX7_bits ⟨rfl, ?_⟩)
    refine V_ireturn dX7_count_84 ⟨_, rfl, vp_nar_int _⟩ ?_
    rw [rCnt, if_neg (fun e => xne s1 e (by decide)), if_neg (fun e => xne s1 e (by decide)), if_neg (fun e => xne s1 e (by decide)), if_neg (fun e => xne s1 e (by decide)), if_pos s1] at hQ
    exact hQ
  · skip
    refine V_ald0 dX7_count_85 ?_
    refine V_iv0 dX7_count_86 wlX7_226 mdX7_wentOfAll miX7_wentOfAll rfl (hM.1 0 (0, 7) rfl) rfl rfl (kX7_wentOfAll hM hr.2.1 hr.b6.2 ⟨rfl, ?_⟩)
    refine V_ireturn dX7_count_89 ⟨_, rfl, vp_nar_int _⟩ ?_
    rw [rCnt, if_neg (fun e => xne s1 e (by decide)), if_neg (fun e => xne s1 e (by decide)), if_neg (fun e => xne s1 e (by decide)), if_neg (fun e => xne s1 e (by decide)), if_neg (fun e => xne s1 e (by decide)), if_pos s1] at hQ
    exact hQ
  · skip
    refine V_ald0 dX7_count_90 ?_
    refine V_getIr dX7_count_91 flX7_159 (hM.1 0 (0, 7) rfl) ?_
    refine V_ireturn dX7_count_94 ⟨_, rfl, vp_nar_int _⟩ ?_
    rw [rCnt, if_neg (fun e => xne s1 e (by decide)), if_neg (fun e => xne s1 e (by decide)), if_neg (fun e => xne s1 e (by decide)), if_neg (fun e => xne s1 e (by decide)), if_neg (fun e => xne s1 e (by decide)), if_neg (fun e => xne s1 e (by decide)), if_pos s1] at hQ
    exact hQ
  · skip
    refine V_ald0 dX7_count_95 ?_
    refine V_getIr dX7_count_96 flX7_96 (hM.1 0 (0, 7) rfl) ?_
    refine V_ireturn dX7_count_99 ⟨_, rfl, vp_nar_int _⟩ ?_
    rw [rCnt, if_neg (fun e => xne s1 e (by decide)), if_neg (fun e => xne s1 e (by decide)), if_neg (fun e => xne s1 e (by decide)), if_neg (fun e => xne s1 e (by decide)), if_neg (fun e => xne s1 e (by decide)), if_neg (fun e => xne s1 e (by decide)), if_neg (fun e => xne s1 e (by decide)), if_pos s1] at hQ
    exact hQ
  · skip
    refine V_ldc dX7_count_100 wkX7_84 ?_
    refine V_ireturn dX7_count_102 ⟨_, rfl, vp_nar_int _⟩ ?_
    rw [rCnt, if_neg s1_0, if_neg s1_1, if_neg s1_2, if_neg s1_3, if_neg s1_4, if_neg s1_5, if_neg s1_6, if_neg s1_7] at hQ
    exact hQ
theorem kX7_marble (hM : xMo Y G) {mb pn : Nat} (hr : rSt S mb pn) {a y v : Int32} (hv : ∀ m, a = nI m → m < mb → rMrb S m y = v) (hQ : Q (some (xI (if rIn a (nI 0) (nI mb - nI 1) ∧ rIn y (nI 0) (nI 2) then v else -1000001))) Y G (va_up N 40 S)) : V RX7 false cX7_marble 3 (some .int) none (d + 2) b 0 [some (xR 40 0), some (xI a), some (xI y)] [] Y G (va_up N 40 S) Q := by
  refine V_ald0 dX7_marble_0 ?_
  refine V_ild1 dX7_marble_1 ?_
  refine V_iv1 dX7_marble_2 wlX7_192 mdX7_isMarble miX7_isMarble rfl (hM.1 0 (0, 7) rfl) rfl rfl (kX7_isMarble hM ⟨rfl, ?_⟩)
  rw [hr.1]
  refine V_ifeqB (tgt := 17) dX7_marble_5 (by decide) (fun c5 => ?_) (fun c5 => ?_)
  · skip
    refine V_ldc dX7_marble_17 wkX7_84 ?_
    refine V_ireturn dX7_marble_19 ⟨_, rfl, vp_nar_int _⟩ ?_
    rw [if_neg (fun h => c5 h.1)] at hQ
    exact hQ
  · skip
    refine V_ild2 dX7_marble_8 ?_
    refine V_iconst (v := nI 0) dX7_marble_9 (by decide) ?_
    refine V_iconst (v := nI 2) dX7_marble_10 (by decide) ?_
    refine V_is3 dX7_marble_11 wlX7_70 mdX7_in msX7_in rfl rfl (kX7_in ⟨rfl, ?_⟩)
    refine V_ifneB (tgt := 20) dX7_marble_14 (by decide) (fun c14 => ?_) (fun c14 => ?_)
    · skip
      obtain ⟨m, hm, rfl⟩ := rIn_m c5 (by have := hr.b6; omega)
      have hb := hr.b6
      rw [if_pos ⟨c5, c14⟩, ← hv m rfl hm] at hQ
      refine V_ald0 dX7_marble_20 ?_
      refine V_getR dX7_marble_21 flX7_25 (hM.1 0 (0, 7) rfl) (show G 40 0 12 = some (40, 13) from hM.2 12 (1, 67) rfl) ?_
      refine V_ild2 dX7_marble_24 ?_
      refine V_ifne (tgt := 35) dX7_marble_25 (by decide) (fun c25 => ?_) (fun c25 => ?_)
      · skip
        refine V_ild2 dX7_marble_35 ?_
        refine V_iconst (v := nI 1) dX7_marble_36 (by decide) ?_
        refine V_icmpne (tgt := 47) dX7_marble_37 (by decide) (fun c37 => ?_) (fun c37 => ?_)
        · skip
          refine V_bipush (v := nI 49) dX7_marble_47 (by decide) ?_
          refine V_ild1 dX7_marble_49 ?_
          refine V_iaddN dX7_marble_50 ?_
          refine V_iar dX7_marble_51 (hM.1 13 (1, 67) rfl) (by omega) (by decide) ?_
          refine V_ireturn dX7_marble_52 ⟨_, rfl, vp_nar_int _⟩ ?_
          rw [rMrb, if_neg c25, if_neg c37] at hQ
          exact hQ
        · skip
          refine V_bipush (v := nI 61) dX7_marble_40 (by decide) ?_
          refine V_ild1 dX7_marble_42 ?_
          refine V_iaddN dX7_marble_43 ?_
          refine V_goto (tgt := 51) dX7_marble_44 (by decide) ?_
          refine V_iar dX7_marble_51 (hM.1 13 (1, 67) rfl) (by omega) (by decide) ?_
          refine V_ireturn dX7_marble_52 ⟨_, rfl, vp_nar_int _⟩ ?_
          rw [rMrb, if_neg c25, if_pos c37] at hQ
          exact hQ
      · skip
        refine V_bipush (v := nI 55) dX7_marble_28 (by decide) ?_
        refine V_ild1 dX7_marble_30 ?_
        refine V_iaddN dX7_marble_31 ?_
        refine V_goto (tgt := 51) dX7_marble_32 (by decide) ?_
        refine V_iar dX7_marble_51 (hM.1 13 (1, 67) rfl) (by omega) (by decide) ?_
        refine V_ireturn dX7_marble_52 ⟨_, rfl, vp_nar_int _⟩ ?_
        rw [rMrb, if_pos c25] at hQ
        exact hQ
    · skip
      refine V_ldc dX7_marble_17 wkX7_84 ?_
      refine V_ireturn dX7_marble_19 ⟨_, rfl, vp_nar_int _⟩ ?_
      rw [if_neg (fun h => c14 h.2)] at hQ
      exact hQ
theorem kX7_piece (hM : xMo Y G) {mb pn : Nat} (hr : rSt S mb pn) {a y v : Int32} (hv : ∀ p, a = nI p → p < pn → rPce S mb p y = v) (hQ : Q (some (xI (if rIn a (nI 0) (nI pn - nI 1) then v else -1000001))) Y G (va_up N 40 S)) : V RX7 false cX7_piece 3 (some .int) none (d + 2) b 0 [some (xR 40 0), some (xI a), some (xI y)] [] Y G (va_up N 40 S) Q := by
  refine V_ald0 dX7_piece_0 ?_
  refine V_ild1 dX7_piece_1 ?_
  refine V_iv1 dX7_piece_2 wlX7_189 mdX7_isPiece miX7_isPiece rfl (hM.1 0 (0, 7) rfl) rfl rfl (kX7_isPiece hM ⟨rfl, ?_⟩)
  rw [hr.2.1]
  refine V_ifneB (tgt := 11) dX7_piece_5 (by decide) (fun c5 => ?_) (fun c5 => ?_)
  · skip
    obtain ⟨p, hp, rfl⟩ := rIn_m c5 (by have := hr.b6; omega)
    have hb := hr.b6
    rw [if_pos c5, ← hv p rfl hp] at hQ
    refine V_ild2 dX7_piece_11 ?_
    refine V_tsw7 (lo := 0) (t0 := 56) (t1 := 65) (t2 := 75) (t3 := 85) (t4 := 95) (t5 := 105) (t6 := 115) (td := 126) dX7_piece_12 (by decide) (by decide) (by decide) (by decide) (by decide) (by decide) (by decide) (by decide) (fun s12 => ?_) (fun s12 => ?_) (fun s12 => ?_) (fun s12 => ?_) (fun s12 => ?_) (fun s12 => ?_) (fun s12 => ?_) (fun s12_0 s12_1 s12_2 s12_3 s12_4 s12_5 s12_6 => ?_)
    · skip
      refine V_ald0 dX7_piece_56 ?_
      refine V_getR dX7_piece_57 flX7_25 (hM.1 0 (0, 7) rfl) (show G 40 0 12 = some (40, 13) from hM.2 12 (1, 67) rfl) ?_
      refine V_iconst (v := nI 1) dX7_piece_60 (by decide) ?_
      refine V_ild1 dX7_piece_61 ?_
      refine V_iaddN dX7_piece_62 ?_
      refine V_iar dX7_piece_63 (hM.1 13 (1, 67) rfl) (by omega) (by decide) ?_
      refine V_ireturn dX7_piece_64 ⟨_, rfl, vp_nar_int _⟩ ?_
      rw [rPce, if_pos s12] at hQ
      exact hQ
    · skip
      refine V_ald0 dX7_piece_65 ?_
      refine V_getR dX7_piece_66 flX7_25 (hM.1 0 (0, 7) rfl) (show G 40 0 12 = some (40, 13) from hM.2 12 (1, 67) rfl) ?_
      refine V_bipush (v := nI 9) dX7_piece_69 (by decide) ?_
      refine V_ild1 dX7_piece_71 ?_
      refine V_iaddN dX7_piece_72 ?_
      refine V_iar dX7_piece_73 (hM.1 13 (1, 67) rfl) (by omega) (by decide) ?_
      refine V_ireturn dX7_piece_74 ⟨_, rfl, vp_nar_int _⟩ ?_
      rw [rPce, if_neg (fun e => xne s12 e (by decide)), if_pos s12] at hQ
      exact hQ
    · skip
      refine V_ald0 dX7_piece_75 ?_
      refine V_getR dX7_piece_76 flX7_25 (hM.1 0 (0, 7) rfl) (show G 40 0 12 = some (40, 13) from hM.2 12 (1, 67) rfl) ?_
      refine V_bipush (v := nI 17) dX7_piece_79 (by decide) ?_
      refine V_ild1 dX7_piece_81 ?_
      refine V_iaddN dX7_piece_82 ?_
      refine V_iar dX7_piece_83 (hM.1 13 (1, 67) rfl) (by omega) (by decide) ?_
      refine V_ireturn dX7_piece_84 ⟨_, rfl, vp_nar_int _⟩ ?_
      rw [rPce, if_neg (fun e => xne s12 e (by decide)), if_neg (fun e => xne s12 e (by decide)), if_pos s12] at hQ
      exact hQ
    · skip
      refine V_ald0 dX7_piece_85 ?_
      refine V_getR dX7_piece_86 flX7_25 (hM.1 0 (0, 7) rfl) (show G 40 0 12 = some (40, 13) from hM.2 12 (1, 67) rfl) ?_
      refine V_bipush (v := nI 25) dX7_piece_89 (by decide) ?_
      refine V_ild1 dX7_piece_91 ?_
      refine V_iaddN dX7_piece_92 ?_
      refine V_iar dX7_piece_93 (hM.1 13 (1, 67) rfl) (by omega) (by decide) ?_
      refine V_ireturn dX7_piece_94 ⟨_, rfl, vp_nar_int _⟩ ?_
      rw [rPce, if_neg (fun e => xne s12 e (by decide)), if_neg (fun e => xne s12 e (by decide)), if_neg (fun e => xne s12 e (by decide)), if_pos s12] at hQ
      exact hQ
    · skip
      refine V_ald0 dX7_piece_95 ?_
      refine V_getR dX7_piece_96 flX7_25 (hM.1 0 (0, 7) rfl) (show G 40 0 12 = some (40, 13) from hM.2 12 (1, 67) rfl) ?_
      refine V_bipush (v := nI 33) dX7_piece_99 (by decide) ?_
      refine V_ild1 dX7_piece_101 ?_
      refine V_iaddN dX7_piece_102 ?_
      refine V_iar dX7_piece_103 (hM.1 13 (1, 67) rfl) (by omega) (by decide) ?_
      refine V_ireturn dX7_piece_104 ⟨_, rfl, vp_nar_int _⟩ ?_
      rw [rPce, if_neg (fun e => xne s12 e (by decide)), if_neg (fun e => xne s12 e (by decide)), if_neg (fun e => xne s12 e (by decide)), if_neg (fun e => xne s12 e (by decide)), if_pos s12] at hQ
      exact hQ
    · skip
      refine V_ald0 dX7_piece_105 ?_
      refine V_getR dX7_piece_106 flX7_25 (hM.1 0 (0, 7) rfl) (show G 40 0 12 = some (40, 13) from hM.2 12 (1, 67) rfl) ?_
      refine V_bipush (v := nI 41) dX7_piece_109 (by decide) ?_
      refine V_ild1 dX7_piece_111 ?_
      refine V_iaddN dX7_piece_112 ?_
      refine V_iar dX7_piece_113 (hM.1 13 (1, 67) rfl) (by omega) (by decide) ?_
      refine V_ireturn dX7_piece_114 ⟨_, rfl, vp_nar_int _⟩ ?_
      rw [rPce, if_neg (fun e => xne s12 e (by decide)), if_neg (fun e => xne s12 e (by decide)), if_neg (fun e => xne s12 e (by decide)), if_neg (fun e => xne s12 e (by decide)), if_neg (fun e => xne s12 e (by decide)), if_pos s12] at hQ
      exact hQ
    · skip
      refine V_ald0 dX7_piece_115 ?_
      refine V_ald0 dX7_piece_116 ?_
      refine V_getR dX7_piece_117 flX7_25 (hM.1 0 (0, 7) rfl) (show G 40 0 12 = some (40, 13) from hM.2 12 (1, 67) rfl) ?_
      refine V_ild1 dX7_piece_120 ?_
      refine V_ild1 dX7_piece_121 ?_
      refine V_sub 40 13 ?_
      refine V_iv3 dX7_piece_122 wlX7_185 mdX7_those miX7_those rfl (hM.1 0 (0, 7) rfl) rfl rfl (kX7_those (c := 13) (f := S 13) hM (by decide) (hM.1 13 (1, 67) rfl) (show S 0 8 = nI mb from hr.1) hr.b6.1 ⟨rfl, ?_⟩)
      rw [va_up_id]
      refine V_ireturn dX7_piece_125 ⟨_, rfl, vp_nar_int _⟩ ?_
      rw [rPce, if_neg (fun e => xne s12 e (by decide)), if_neg (fun e => xne s12 e (by decide)), if_neg (fun e => xne s12 e (by decide)), if_neg (fun e => xne s12 e (by decide)), if_neg (fun e => xne s12 e (by decide)), if_neg (fun e => xne s12 e (by decide)), if_pos s12] at hQ
      exact hQ
    · skip
      refine V_ldc dX7_piece_126 wkX7_84 ?_
      refine V_ireturn dX7_piece_128 ⟨_, rfl, vp_nar_int _⟩ ?_
      rw [rPce, if_neg s12_0, if_neg s12_1, if_neg s12_2, if_neg s12_3, if_neg s12_4, if_neg s12_5, if_neg s12_6] at hQ
      exact hQ
  · skip
    refine V_ldc dX7_piece_8 wkX7_84 ?_
    refine V_ireturn dX7_piece_10 ⟨_, rfl, vp_nar_int _⟩ ?_
    rw [if_neg c5] at hQ
    exact hQ
theorem kX7_stand (hM : xMo Y G) {mb pn : Nat} (hr : rSt S mb pn) {y v : Int32} (hv : 1 ≤ mb → rOK (S 0) (S 11) mb pn (S 13) → rStd S mb y = v) (hQ : Q (some (xI (if nI pn = 0 then -1000002 else v))) Y G (va_up N 40 S)) : V RX7 false cX7_stand 2 (some .int) none (d + 2) b 0 [some (xR 40 0), some (xI y)] [] Y G (va_up N 40 S) Q := by
  refine V_ald0 dX7_stand_0 ?_
  refine V_iv0 dX7_stand_1 wlX7_174 mdX7_isNone miX7_isNone rfl (hM.1 0 (0, 7) rfl) rfl rfl (kX7_isNone hM ⟨rfl, ?_⟩)
  rw [hr.2.1]
  refine V_ifeqB (tgt := 10) dX7_stand_4 (by decide) (fun c4 => ?_) (fun c4 => ?_)
  · skip
    rw [if_neg c4, ← hv (hr.ok0 c4).1 (hr.ok0 c4).2] at hQ
    refine V_ild1 dX7_stand_10 ?_
    refine V_tsw6 (lo := 0) (t0 := 48) (t1 := 53) (t2 := 66) (t3 := 78) (t4 := 91) (t5 := 104) (td := 117) dX7_stand_11 (by decide) (by decide) (by decide) (by decide) (by decide) (by decide) (by decide) (fun s11 => ?_) (fun s11 => ?_) (fun s11 => ?_) (fun s11 => ?_) (fun s11 => ?_) (fun s11 => ?_) (fun s11_0 s11_1 s11_2 s11_3 s11_4 s11_5 => ?_)
    · skip
      refine V_ald0 dX7_stand_48 ?_
      refine V_getIr dX7_stand_49 flX7_152 (hM.1 0 (0, 7) rfl) ?_
      refine V_ireturn dX7_stand_52 ⟨_, rfl, vp_nar_int _⟩ ?_
      rw [rStd, if_pos s11] at hQ
      exact hQ
    · skip
      refine V_ald0 dX7_stand_53 ?_
      refine V_ald0 dX7_stand_54 ?_
      refine V_getR dX7_stand_55 flX7_25 (hM.1 0 (0, 7) rfl) (show G 40 0 12 = some (40, 13) from hM.2 12 (1, 67) rfl) ?_
      refine V_bipush (v := nI 10) dX7_stand_58 (by decide) ?_
      refine V_bipush (v := nI 10) dX7_stand_60 (by decide) ?_
      refine V_sub 40 13 ?_
      refine V_iv3 dX7_stand_62 wlX7_185 mdX7_those miX7_those rfl (hM.1 0 (0, 7) rfl) rfl rfl (kX7_those (c := 13) (f := S 13) hM (by decide) (hM.1 13 (1, 67) rfl) (show S 0 8 = nI mb from hr.1) hr.b6.1 ⟨rfl, ?_⟩)
      rw [va_up_id]
      refine V_ireturn dX7_stand_65 ⟨_, rfl, vp_nar_int _⟩ ?_
      rw [rStd, if_neg (fun e => xne s11 e (by decide)), if_pos s11] at hQ
      exact hQ
    · skip
      refine V_ald0 dX7_stand_66 ?_
      refine V_ald0 dX7_stand_67 ?_
      refine V_getR dX7_stand_68 flX7_25 (hM.1 0 (0, 7) rfl) (show G 40 0 12 = some (40, 13) from hM.2 12 (1, 67) rfl) ?_
      refine V_iconst (v := nI 0) dX7_stand_71 (by decide) ?_
      refine V_bipush (v := nI 7) dX7_stand_72 (by decide) ?_
      refine V_sub 40 13 ?_
      refine V_iv3 dX7_stand_74 wlX7_185 mdX7_those miX7_those rfl (hM.1 0 (0, 7) rfl) rfl rfl (kX7_those (c := 13) (f := S 13) hM (by decide) (hM.1 13 (1, 67) rfl) (show S 0 8 = nI mb from hr.1) hr.b6.1 ⟨rfl, ?_⟩)
      rw [va_up_id]
      refine V_ireturn dX7_stand_77 ⟨_, rfl, vp_nar_int _⟩ ?_
      rw [rStd, if_neg (fun e => xne s11 e (by decide)), if_neg (fun e => xne s11 e (by decide)), if_pos s11] at hQ
      exact hQ
    · skip
      refine V_ald0 dX7_stand_78 ?_
      refine V_ald0 dX7_stand_79 ?_
      refine V_getR dX7_stand_80 flX7_25 (hM.1 0 (0, 7) rfl) (show G 40 0 12 = some (40, 13) from hM.2 12 (1, 67) rfl) ?_
      refine V_bipush (v := nI 20) dX7_stand_83 (by decide) ?_
      refine V_bipush (v := nI 28) dX7_stand_85 (by decide) ?_
      refine V_sub 40 13 ?_
      refine V_iv3 dX7_stand_87 wlX7_185 mdX7_those miX7_those rfl (hM.1 0 (0, 7) rfl) rfl rfl (kX7_those (c := 13) (f := S 13) hM (by decide) (hM.1 13 (1, 67) rfl) (show S 0 8 = nI mb from hr.1) hr.b6.1 ⟨rfl, ?_⟩)
      rw [va_up_id]
      refine V_ireturn dX7_stand_90 ⟨_, rfl, vp_nar_int _⟩ ?_
      rw [rStd, if_neg (fun e => xne s11 e (by decide)), if_neg (fun e => xne s11 e (by decide)), if_neg (fun e => xne s11 e (by decide)), if_pos s11] at hQ
      exact hQ
    · skip
      refine V_ald0 dX7_stand_91 ?_
      refine V_ald0 dX7_stand_92 ?_
      refine V_getR dX7_stand_93 flX7_25 (hM.1 0 (0, 7) rfl) (show G 40 0 12 = some (40, 13) from hM.2 12 (1, 67) rfl) ?_
      refine V_bipush (v := nI 8) dX7_stand_96 (by decide) ?_
      refine V_bipush (v := nI 8) dX7_stand_98 (by decide) ?_
      refine V_sub 40 13 ?_
      refine V_iv3 dX7_stand_100 wlX7_185 mdX7_those miX7_those rfl (hM.1 0 (0, 7) rfl) rfl rfl (kX7_those (c := 13) (f := S 13) hM (by decide) (hM.1 13 (1, 67) rfl) (show S 0 8 = nI mb from hr.1) hr.b6.1 ⟨rfl, ?_⟩)
      rw [va_up_id]
      refine V_ireturn dX7_stand_103 ⟨_, rfl, vp_nar_int _⟩ ?_
      rw [rStd, if_neg (fun e => xne s11 e (by decide)), if_neg (fun e => xne s11 e (by decide)), if_neg (fun e => xne s11 e (by decide)), if_neg (fun e => xne s11 e (by decide)), if_pos s11] at hQ
      exact hQ
    · skip
      refine V_ald0 dX7_stand_104 ?_
      refine V_ald0 dX7_stand_105 ?_
      refine V_getR dX7_stand_106 flX7_25 (hM.1 0 (0, 7) rfl) (show G 40 0 12 = some (40, 13) from hM.2 12 (1, 67) rfl) ?_
      refine V_bipush (v := nI 9) dX7_stand_109 (by decide) ?_
      refine V_bipush (v := nI 9) dX7_stand_111 (by decide) ?_
      refine V_sub 40 13 ?_
      refine V_iv3 dX7_stand_113 wlX7_185 mdX7_those miX7_those rfl (hM.1 0 (0, 7) rfl) rfl rfl (kX7_those (c := 13) (f := S 13) hM (by decide) (hM.1 13 (1, 67) rfl) (show S 0 8 = nI mb from hr.1) hr.b6.1 ⟨rfl, ?_⟩)
      rw [va_up_id]
      refine V_ireturn dX7_stand_116 ⟨_, rfl, vp_nar_int _⟩ ?_
      rw [rStd, if_neg (fun e => xne s11 e (by decide)), if_neg (fun e => xne s11 e (by decide)), if_neg (fun e => xne s11 e (by decide)), if_neg (fun e => xne s11 e (by decide)), if_neg (fun e => xne s11 e (by decide)), if_pos s11] at hQ
      exact hQ
    · skip
      refine V_ldc dX7_stand_117 wkX7_84 ?_
      refine V_ireturn dX7_stand_119 ⟨_, rfl, vp_nar_int _⟩ ?_
      rw [rStd, if_neg s11_0, if_neg s11_1, if_neg s11_2, if_neg s11_3, if_neg s11_4, if_neg s11_5] at hQ
      exact hQ
  · skip
    refine V_ldc dX7_stand_7 wkX7_173 ?_
    refine V_ireturn dX7_stand_9 ⟨_, rfl, vp_nar_int _⟩ ?_
    rw [if_pos c4] at hQ
    exact hQ
theorem kX7_isA (hM : xMo Y G) {p : Nat} (hp : p < 8) {k : Int32} (hQ : Q (some (xI (if rIsA (S 11 p) k then 1 else 0))) Y G (va_up N 40 S)) : V RX7 false cX7_isA 4 (some .boolean) none d b 0 [some (xR 40 0), some (xI (nI p)), some (xI k), none] [] Y G (va_up N 40 S) Q := by
  refine V_ald0 dX7_isA_0 ?_
  refine V_getR dX7_isA_1 flX7_22 (hM.1 0 (0, 7) rfl) (show G 40 0 10 = some (40, 11) from hM.2 10 (1, 8) rfl) ?_
  refine V_ild1 dX7_isA_4 ?_
  refine V_iar dX7_isA_5 (hM.1 11 (1, 8) rfl) (by omega) (by decide) ?_
  refine V_ist3 dX7_isA_6 rfl ?_
  refine V_ild2 dX7_isA_7 ?_
  refine V_ifeq (tgt := 36) dX7_isA_8 (by decide) (fun c8 => ?_) (fun c8 => ?_)
  · skip
    refine V_iconst (v := 1) dX7_isA_36 (by decide) ?_
    refine V_goto (tgt := 41) dX7_isA_37 (by decide) ?_
    refine V_ireturn dX7_isA_41 ⟨_, rfl, xbool (by first | exact Or.inl rfl | exact Or.inr rfl | exact xite01 _)⟩ ?_
    rw [if_pos (Or.inl c8)] at hQ
    exact hQ
  · skip
    refine V_ild2 dX7_isA_11 ?_
    refine V_ild3 dX7_isA_12 ?_
    refine V_icmpeq (tgt := 36) dX7_isA_13 (by decide) (fun c13 => ?_) (fun c13 => ?_)
    · skip
      refine V_iconst (v := 1) dX7_isA_36 (by decide) ?_
      refine V_goto (tgt := 41) dX7_isA_37 (by decide) ?_
      refine V_ireturn dX7_isA_41 ⟨_, rfl, xbool (by first | exact Or.inl rfl | exact Or.inr rfl | exact xite01 _)⟩ ?_
      rw [if_pos (Or.inr (Or.inl c13))] at hQ
      exact hQ
    · skip
      refine V_ild2 dX7_isA_16 ?_
      refine V_iconst (v := nI 1) dX7_isA_17 (by decide) ?_
      refine V_icmpne (tgt := 26) dX7_isA_18 (by decide) (fun c18 => ?_) (fun c18 => ?_)
      · skip
        refine V_ild2 dX7_isA_26 ?_
        refine V_iconst (v := nI 4) dX7_isA_27 (by decide) ?_
        refine V_icmpne (tgt := 40) dX7_isA_28 (by decide) (fun c28 => ?_) (fun c28 => ?_)
        · skip
          refine V_iconst (v := 0) dX7_isA_40 (by decide) ?_
          refine V_ireturn dX7_isA_41 ⟨_, rfl, xbool (by first | exact Or.inl rfl | exact Or.inr rfl | exact xite01 _)⟩ ?_
          rw [if_neg (fun h => h.elim c8 (fun h => h.elim c13 (fun h => h.elim (fun h => c18 h.1) (fun h => c28 h.1))))] at hQ
          exact hQ
        · skip
          refine V_ild3 dX7_isA_31 ?_
          refine V_iconst (v := nI 5) dX7_isA_32 (by decide) ?_
          refine V_icmpne (tgt := 40) dX7_isA_33 (by decide) (fun c33 => ?_) (fun c33 => ?_)
          · skip
            refine V_iconst (v := 0) dX7_isA_40 (by decide) ?_
            refine V_ireturn dX7_isA_41 ⟨_, rfl, xbool (by first | exact Or.inl rfl | exact Or.inr rfl | exact xite01 _)⟩ ?_
            rw [if_neg (fun h => h.elim c8 (fun h => h.elim c13 (fun h => h.elim (fun h => c18 h.1) (fun h => c33 h.2))))] at hQ
            exact hQ
          · skip
            refine V_iconst (v := 1) dX7_isA_36 (by decide) ?_
            refine V_goto (tgt := 41) dX7_isA_37 (by decide) ?_
            refine V_ireturn dX7_isA_41 ⟨_, rfl, xbool (by first | exact Or.inl rfl | exact Or.inr rfl | exact xite01 _)⟩ ?_
            rw [if_pos (Or.inr (Or.inr (Or.inr ⟨c28, c33⟩)))] at hQ
            exact hQ
      · skip
        refine V_ild3 dX7_isA_21 ?_
        refine V_iconst (v := nI 4) dX7_isA_22 (by decide) ?_
        refine V_icmplt (tgt := 36) dX7_isA_23 (by decide) (fun c23 => ?_) (fun c23 => ?_)
        · skip
          refine V_iconst (v := 1) dX7_isA_36 (by decide) ?_
          refine V_goto (tgt := 41) dX7_isA_37 (by decide) ?_
          refine V_ireturn dX7_isA_41 ⟨_, rfl, xbool (by first | exact Or.inl rfl | exact Or.inr rfl | exact xite01 _)⟩ ?_
          rw [if_pos (Or.inr (Or.inr (Or.inl ⟨c18, c23⟩)))] at hQ
          exact hQ
        · skip
          refine V_ild2 dX7_isA_26 ?_
          refine V_iconst (v := nI 4) dX7_isA_27 (by decide) ?_
          refine V_icmpne (tgt := 40) dX7_isA_28 (by decide) (fun c28 => ?_) (fun c28 => ?_)
          · skip
            refine V_iconst (v := 0) dX7_isA_40 (by decide) ?_
            refine V_ireturn dX7_isA_41 ⟨_, rfl, xbool (by first | exact Or.inl rfl | exact Or.inr rfl | exact xite01 _)⟩ ?_
            rw [if_neg (fun h => h.elim c8 (fun h => h.elim c13 (fun h => h.elim (fun h => c23 h.2) (fun h => c28 h.1))))] at hQ
            exact hQ
          · skip
            refine V_ild3 dX7_isA_31 ?_
            refine V_iconst (v := nI 5) dX7_isA_32 (by decide) ?_
            refine V_icmpne (tgt := 40) dX7_isA_33 (by decide) (fun c33 => ?_) (fun c33 => ?_)
            · skip
              refine V_iconst (v := 0) dX7_isA_40 (by decide) ?_
              refine V_ireturn dX7_isA_41 ⟨_, rfl, xbool (by first | exact Or.inl rfl | exact Or.inr rfl | exact xite01 _)⟩ ?_
              rw [if_neg (fun h => h.elim c8 (fun h => h.elim c13 (fun h => h.elim (fun h => c23 h.2) (fun h => c33 h.2))))] at hQ
              exact hQ
            · skip
              refine V_iconst (v := 1) dX7_isA_36 (by decide) ?_
              refine V_goto (tgt := 41) dX7_isA_37 (by decide) ?_
              refine V_ireturn dX7_isA_41 ⟨_, rfl, xbool (by first | exact Or.inl rfl | exact Or.inr rfl | exact xite01 _)⟩ ?_
              rw [if_pos (Or.inr (Or.inr (Or.inr ⟨c28, c33⟩)))] at hQ
              exact hQ
theorem kX7_as (hM : xMo Y G) {mb pn : Nat} (hr : rSt S mb pn) {a y kd : Int32} (hkd : ∀ p, a = nI p → p < pn → kd = (if rIsA (S 11 p) y then 0 else nI 3)) (hQ : Q (some (xI (if rIn a (nI 0) (nI pn - nI 1) ∧ rIn y (nI 0) (nI 5) then (if kd = 0 then a else -1000010 - kd) else -1000001))) Y G (va_up N 40 (if rIn a (nI 0) (nI pn - nI 1) ∧ rIn y (nI 0) (nI 5) then rFound S kd else S))) : V RX7 false cX7_as 3 (some .int) none (d + 2) b 0 [some (xR 40 0), some (xI a), some (xI y)] [] Y G (va_up N 40 S) Q := by
  refine V_ald0 dX7_as_0 ?_
  refine V_ild1 dX7_as_1 ?_
  refine V_iv1 dX7_as_2 wlX7_189 mdX7_isPiece miX7_isPiece rfl (hM.1 0 (0, 7) rfl) rfl rfl (kX7_isPiece hM ⟨rfl, ?_⟩)
  rw [hr.2.1]
  refine V_ifeqB (tgt := 17) dX7_as_5 (by decide) (fun c5 => ?_) (fun c5 => ?_)
  · skip
    refine V_ldc dX7_as_17 wkX7_84 ?_
    refine V_ireturn dX7_as_19 ⟨_, rfl, vp_nar_int _⟩ ?_
    rw [if_neg (fun h => c5 h.1), if_neg (fun h => c5 h.1)] at hQ
    exact hQ
  · skip
    refine V_ild2 dX7_as_8 ?_
    refine V_iconst (v := nI 0) dX7_as_9 (by decide) ?_
    refine V_iconst (v := nI 5) dX7_as_10 (by decide) ?_
    refine V_is3 dX7_as_11 wlX7_70 mdX7_in msX7_in rfl rfl (kX7_in ⟨rfl, ?_⟩)
    refine V_ifneB (tgt := 20) dX7_as_14 (by decide) (fun c14 => ?_) (fun c14 => ?_)
    · skip
      have hPP : rIn a (nI 0) (nI pn - nI 1) ∧ rIn y (nI 0) (nI 5) := ⟨c5, c14⟩
      rw [if_pos hPP, if_pos hPP] at hQ
      obtain ⟨p, hp, rfl⟩ := rIn_m c5 (by have := hr.b6; omega)
      have hb := hr.b6
      have hkd := hkd p rfl hp
      refine V_ald0 dX7_as_20 ?_
      refine V_ild1 dX7_as_21 ?_
      refine V_ild2 dX7_as_22 ?_
      refine V_iv2 dX7_as_23 wlX7_256 mdX7_isA miX7_isA rfl (hM.1 0 (0, 7) rfl) rfl rfl (kX7_isA hM (by omega) ⟨rfl, ?_⟩)
      refine V_ifneB (tgt := 35) dX7_as_26 (by decide) (fun c26 => ?_) (fun c26 => ?_)
      · skip
        refine V_ald0 dX7_as_35 ?_
        refine V_iconst (v := 0) dX7_as_36 (by decide) ?_
        refine V_putIr dX7_as_37 fwX7_65 (hM.1 0 (0, 7) rfl) ?_
        refine V_ild1 dX7_as_40 ?_
        refine V_ireturn dX7_as_41 ⟨_, rfl, vp_nar_int _⟩ ?_
        rw [if_pos c26] at hkd
        rw [hkd, if_pos rfl] at hQ
        exact hQ
      · skip
        refine V_ald0 dX7_as_29 ?_
        refine V_iconst (v := nI 3) dX7_as_30 (by decide) ?_
        refine V_iv1 dX7_as_31 wlX7_85 mdX7_finds miX7_finds rfl (hM.1 0 (0, 7) rfl) rfl rfl (kX7_finds hM ⟨rfl, ?_⟩)
        refine V_ireturn dX7_as_34 ⟨_, rfl, vp_nar_int _⟩ ?_
        rw [if_neg c26] at hkd
        rw [hkd, if_neg (by decide)] at hQ
        exact hQ
    · skip
      refine V_ldc dX7_as_17 wkX7_84 ?_
      refine V_ireturn dX7_as_19 ⟨_, rfl, vp_nar_int _⟩ ?_
      rw [if_neg (fun h => c14 h.2), if_neg (fun h => c14 h.2)] at hQ
      exact hQ
end KM
