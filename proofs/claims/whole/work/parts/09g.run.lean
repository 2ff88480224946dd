section K6
variable {d : Nat} {b : Nat × Nat} {Y : xY} {G : xG} {N : xM} {T : xT} {Q : Option xAV → xY → xG → xM → Prop}
theorem kX6_row (hS : xSt Y G) {a l z : Int32} (hB : ¬ (rIn a (nI 0) (nI 7) ∧ rIn l (nI 0) (nI 2) ∧ ¬ nI 40 < z) → Q (some (xI (-1000001))) Y G N) (h4 : rIn a (nI 0) (nI 7) ∧ rIn l (nI 0) (nI 2) ∧ ¬ nI 40 < z → z < 0 → Q (some (xI (-1000010 - nI 4))) Y G (cFd N (nI 4))) (hO : ∀ r k, rIn a (nI 0) (nI 7) ∧ rIn l (nI 0) (nI 2) ∧ ¬ nI 40 < z → a = nI r → r < 8 → z = nI k → k ≤ 40 → Q (some (xI (nI k))) Y G (cFd (va_up N 1 (cMake (N 1) r l (nI k))) 0)) : V RX6 false cX6_row 4 (some .int) none (d + 2) b 0 [some (xR 0 0), some (xI a), some (xI l), some (xI z)] [] Y G N Q := by
  refine V_ild1 dX6_row_0 ?_
  refine V_is1 dX6_row_1 wlX6_65 mdX6_noRow msX6_noRow rfl rfl (kX6_noRow ⟨rfl, ?_⟩)
  refine V_ifneB (tgt := 22) dX6_row_4 (by decide) (fun c4 => ?_) (fun c4 => ?_)
  · skip
    refine V_ldc dX6_row_22 wkX6_69 ?_
    refine V_ireturn dX6_row_24 ⟨_, rfl, vp_nar_int _⟩ ?_
    exact hB (fun h => c4 h.1)
  · replace c4 := Classical.not_not.mp c4
    refine V_ild2 dX6_row_7 ?_
    refine V_iflt (tgt := 22) dX6_row_8 (by decide) (fun c8 => ?_) (fun c8 => ?_)
    · skip
      refine V_ldc dX6_row_22 wkX6_69 ?_
      refine V_ireturn dX6_row_24 ⟨_, rfl, vp_nar_int _⟩ ?_
      exact hB (fun h => h.2.1.1 c8)
    · skip
      refine V_ild2 dX6_row_11 ?_
      refine V_iconst (v := nI 2) dX6_row_12 (by decide) ?_
      refine V_icmpgt (tgt := 22) dX6_row_13 (by decide) (fun c13 => ?_) (fun c13 => ?_)
      · skip
        refine V_ldc dX6_row_22 wkX6_69 ?_
        refine V_ireturn dX6_row_24 ⟨_, rfl, vp_nar_int _⟩ ?_
        exact hB (fun h => h.2.1.2 c13)
      · skip
        refine V_ild3 dX6_row_16 ?_
        refine V_bipush (v := nI 40) dX6_row_17 (by decide) ?_
        refine V_icmple (tgt := 25) dX6_row_19 (by decide) (fun c19 => ?_) (fun c19 => ?_)
        · skip
          have hP : rIn a (nI 0) (nI 7) ∧ rIn l (nI 0) (nI 2) ∧ ¬ nI 40 < z := ⟨c4, ⟨c8, c13⟩, Int32.not_lt.mpr c19⟩
          refine V_ild3 dX6_row_25 ?_
          refine V_ifge (tgt := 35) dX6_row_26 (by decide) (fun c26 => ?_) (fun c26 => ?_)
          · skip
            obtain ⟨r, hr0, hr7, rfl⟩ := rIn_k c4 (by decide) (by decide)
            obtain ⟨k, hk0, hk1, rfl⟩ := rIn_k (lo := 0) (hi := 40) (show rIn z (nI 0) (nI 40) from ⟨Int32.not_lt.mpr c26, Int32.not_lt.mpr c19⟩) (by decide) (by decide)
            refine V_ald0 dX6_row_35 ?_
            refine V_getR dX6_row_36 flX6_10 (hS.r0.1 0 (0, 6) rfl) (hS.r0.2 0 (1, 0) rfl) ?_
            refine V_ild1 dX6_row_39 ?_
            refine V_ild2 dX6_row_40 ?_
            refine V_ild3 dX6_row_41 ?_
            refine V_in1 1 ?_
            refine V_iv3 dX6_row_42 wlX6_74 mdX2_make miX2_make rfl (hS.r1.1 0 (0, 2) rfl) rfl rfl (kX2_make hS (by omega) ⟨rfl, ?_⟩)
            refine V_ald0 dX6_row_45 ?_
            refine V_ild3 dX6_row_46 ?_
            refine V_iv1 dX6_row_47 wlX6_78 mdX6_foundNone miX6_foundNone rfl (hS.r0.1 0 (0, 6) rfl) rfl rfl (kX6_foundNone hS ⟨rfl, ?_⟩)
            refine V_ireturn dX6_row_50 ⟨_, rfl, vp_nar_int _⟩ ?_
            exact hO r k hP rfl (by omega) rfl (by omega)
          · skip
            refine V_ald0 dX6_row_29 ?_
            refine V_iconst (v := nI 4) dX6_row_30 (by decide) ?_
            refine V_iv1 dX6_row_31 wlX6_70 mdX6_found miX6_found rfl (hS.r0.1 0 (0, 6) rfl) rfl rfl (kX6_found hS ⟨rfl, ?_⟩)
            refine V_ireturn dX6_row_34 ⟨_, rfl, vp_nar_int _⟩ ?_
            exact h4 hP (Int32.not_le.mp c26)
        · skip
          refine V_ldc dX6_row_22 wkX6_69 ?_
          refine V_ireturn dX6_row_24 ⟨_, rfl, vp_nar_int _⟩ ?_
          exact hB (fun h => h.2.2 (Int32.not_le.mp c19))
theorem kX6_set (hS : xSt Y G) (hsz : szOK (N 1 3)) {a x v : Int32} (hB : ¬ rIn a (nI 0) (nI 7) → Q (some (xI (-1000001))) Y G N) (hF : ∀ r, a = nI r → r < 8 → ¬ cFnd (N 1) (nI r) x (nI 1) = 0 → Q (some (xI (-1000010 - cFnd (N 1) (nI r) x (nI 1)))) Y G (cFd N (cFnd (N 1) (nI r) x (nI 1)))) (hO : ∀ r j, a = nI r → r < 8 → x = nI j → j < 40 → cFnd (N 1) (nI r) (nI j) (nI 1) = 0 → Q (some (xI (cCut (N 1 2 r) v))) Y G (cFd (va_up N 1 (va_up (N 1) (10 + r) (upd (N 1 (10 + r)) j (cCut (N 1 2 r) v)))) 0)) : V RX6 false cX6_set 5 (some .int) none (d + 2) b 0 [some (xR 0 0), some (xI a), some (xI x), some (xI v), none] [] Y G N Q := by
  refine V_ild1 dX6_set_0 ?_
  refine V_is1 dX6_set_1 wlX6_65 mdX6_noRow msX6_noRow rfl rfl (kX6_noRow ⟨rfl, ?_⟩)
  refine V_ifeqB (tgt := 10) dX6_set_4 (by decide) (fun c4 => ?_) (fun c4 => ?_)
  · replace c4 := Classical.not_not.mp c4
    obtain ⟨r, hr0, hr7, rfl⟩ := rIn_k c4 (by decide) (by decide)
    
    refine V_ald0 dX6_set_10 ?_
    refine V_ild1 dX6_set_11 ?_
    refine V_ild2 dX6_set_12 ?_
    refine V_iconst (v := nI 1) dX6_set_13 (by decide) ?_
    refine V_iv3 dX6_set_14 wlX6_81 mdX6_findingAt miX6_findingAt rfl (hS.r0.1 0 (0, 6) rfl) rfl rfl (kX6_findingAt hS (by omega) ⟨rfl, ?_⟩)
    refine V_ist4 dX6_set_17 rfl ?_
    refine V_ild4 dX6_set_19 ?_
    refine V_ifne (tgt := 41) dX6_set_21 (by decide) (fun c21 => ?_) (fun c21 => ?_)
    · skip
      refine V_ald0 dX6_set_41 ?_
      refine V_ild4 dX6_set_42 ?_
      refine V_iv1 dX6_set_44 wlX6_70 mdX6_found miX6_found rfl (hS.r0.1 0 (0, 6) rfl) rfl rfl (kX6_found hS ⟨rfl, ?_⟩)
      refine V_ireturn dX6_set_47 ⟨_, rfl, vp_nar_int _⟩ ?_
      exact hF r rfl (by omega) c21
    · skip
      have hfd := c21
      unfold cFnd at hfd
      rw [nI_clamp (by omega)] at hfd
      obtain ⟨jj, rfl, hjn⟩ : ∃ j, x = nI j ∧ j + 1 ≤ 40 := by
        by_cases q1 : N 1 3 r = -1
        · rw [if_pos q1] at hfd; exact absurd hfd (by decide)
        · rw [if_neg q1] at hfd
          by_cases q2 : cHas (N 1) r x (nI 1)
          · exact has_nat hsz (by omega) (by omega) q1 q2
          · rw [if_neg q2] at hfd; exact absurd hfd (by decide)
      refine V_ald0 dX6_set_24 ?_
      refine V_ald0 dX6_set_25 ?_
      refine V_getR dX6_set_26 flX6_10 (hS.r0.1 0 (0, 6) rfl) (hS.r0.2 0 (1, 0) rfl) ?_
      refine V_ild1 dX6_set_29 ?_
      refine V_ild2 dX6_set_30 ?_
      refine V_ild3 dX6_set_31 ?_
      refine V_in1 1 ?_
      refine V_iv3 dX6_set_32 wlX6_85 mdX2_put miX2_put rfl (hS.r1.1 0 (0, 2) rfl) rfl rfl (kX2_put hS (by omega) (by omega) ⟨rfl, ?_⟩)
      refine V_iv1 dX6_set_35 wlX6_78 mdX6_foundNone miX6_foundNone rfl (hS.r0.1 0 (0, 6) rfl) rfl rfl (kX6_foundNone hS ⟨rfl, ?_⟩)
      refine V_goto (tgt := 47) dX6_set_38 (by decide) ?_
      refine V_ireturn dX6_set_47 ⟨_, rfl, vp_nar_int _⟩ ?_
      exact hO r jj rfl (by omega) rfl (by omega) c21
  · skip
    refine V_ldc dX6_set_7 wkX6_69 ?_
    refine V_ireturn dX6_set_9 ⟨_, rfl, vp_nar_int _⟩ ?_
    exact hB c4
theorem kX6_drop (hS : xSt Y G) {a : Int32} (hB : ¬ rIn a (nI 0) (nI 7) → Q (some (xI (-1000001))) Y G N) (h1 : ∀ r, a = nI r → r < 8 → N 1 3 r = -1 → Q (some (xI (-1000010 - nI 1))) Y G (cFd N (nI 1))) (hO : ∀ r, a = nI r → r < 8 → ¬ N 1 3 r = -1 → Q (some (xI (N 1 3 r))) Y G (cFd (va_up N 1 (va_up (N 1) 3 (upd (N 1 3) r (-1)))) 0)) : V RX6 false cX6_drop 2 (some .int) none (d + 2) b 0 [some (xR 0 0), some (xI a)] [] Y G N Q := by
  refine V_ild1 dX6_drop_0 ?_
  refine V_is1 dX6_drop_1 wlX6_65 mdX6_noRow msX6_noRow rfl rfl (kX6_noRow ⟨rfl, ?_⟩)
  refine V_ifeqB (tgt := 10) dX6_drop_4 (by decide) (fun c4 => ?_) (fun c4 => ?_)
  · replace c4 := Classical.not_not.mp c4
    obtain ⟨r, hr0, hr7, rfl⟩ := rIn_k c4 (by decide) (by decide)
    
    refine V_ald0 dX6_drop_10 ?_
    refine V_getR dX6_drop_11 flX6_10 (hS.r0.1 0 (0, 6) rfl) (hS.r0.2 0 (1, 0) rfl) ?_
    refine V_ild1 dX6_drop_14 ?_
    refine V_in1 1 ?_
    refine V_iv1 dX6_drop_15 wlX6_88 mdX2_isMissing miX2_isMissing rfl (hS.r1.1 0 (0, 2) rfl) rfl rfl (kX2_isMissing hS (by omega) ⟨rfl, ?_⟩)
    rw [va_up_id]
    refine V_ifeqB (tgt := 27) dX6_drop_18 (by decide) (fun c18 => ?_) (fun c18 => ?_)
    · skip
      refine V_ald0 dX6_drop_27 ?_
      refine V_ald0 dX6_drop_28 ?_
      refine V_getR dX6_drop_29 flX6_10 (hS.r0.1 0 (0, 6) rfl) (hS.r0.2 0 (1, 0) rfl) ?_
      refine V_ild1 dX6_drop_32 ?_
      refine V_in1 1 ?_
      refine V_iv1 dX6_drop_33 wlX6_102 mdX2_remove miX2_remove rfl (hS.r1.1 0 (0, 2) rfl) rfl rfl (kX2_remove hS (by omega) ⟨rfl, ?_⟩)
      refine V_iv1 dX6_drop_36 wlX6_78 mdX6_foundNone miX6_foundNone rfl (hS.r0.1 0 (0, 6) rfl) rfl rfl (kX6_foundNone hS ⟨rfl, ?_⟩)
      refine V_ireturn dX6_drop_39 ⟨_, rfl, vp_nar_int _⟩ ?_
      exact hO r rfl (by omega) c18
    · skip
      refine V_ald0 dX6_drop_21 ?_
      refine V_iconst (v := nI 1) dX6_drop_22 (by decide) ?_
      refine V_iv1 dX6_drop_23 wlX6_70 mdX6_found miX6_found rfl (hS.r0.1 0 (0, 6) rfl) rfl rfl (kX6_found hS ⟨rfl, ?_⟩)
      refine V_ireturn dX6_drop_26 ⟨_, rfl, vp_nar_int _⟩ ?_
      exact h1 r rfl (by omega) c18
  · skip
    refine V_ldc dX6_drop_7 wkX6_69 ?_
    refine V_ireturn dX6_drop_9 ⟨_, rfl, vp_nar_int _⟩ ?_
    exact hB c4
theorem kX6_feed (hS : xSt Y G) {n : Nat} (hn : N 2 0 1 = nI n) (hn2 : n ≤ 110) {a : Int32} (hB : ¬ rIn a (nI 0) (nI 255) → Q (some (xI (-1000001))) Y G N) (hF : rIn a (nI 0) (nI 255) → n = 110 → Q (some (xI (-1000003))) Y G N) (hO : rIn a (nI 0) (nI 255) → n < 110 → Q (some (xI (cAdd (N 2) n a 0 1))) Y G (va_up N 2 (cAdd (N 2) n a))) : V RX6 false cX6_feed 2 (some .int) none (d + 2) b 0 [some (xR 0 0), some (xI a)] [] Y G N Q := by
  refine V_ild1 dX6_feed_0 ?_
  refine V_iflt (tgt := 11) dX6_feed_1 (by decide) (fun c1 => ?_) (fun c1 => ?_)
  · skip
    refine V_ldc dX6_feed_11 wkX6_69 ?_
    refine V_ireturn dX6_feed_13 ⟨_, rfl, vp_nar_int _⟩ ?_
    exact hB (fun h => h.1 c1)
  · skip
    refine V_ild1 dX6_feed_4 ?_
    refine V_sipush (v := nI 255) dX6_feed_5 (by decide) ?_
    refine V_icmple (tgt := 14) dX6_feed_8 (by decide) (fun c8 => ?_) (fun c8 => ?_)
    · skip
      refine V_ald0 dX6_feed_14 ?_
      refine V_getR dX6_feed_15 flX6_19 (hS.r0.1 0 (0, 6) rfl) (hS.r0.2 1 (2, 0) rfl) ?_
      refine V_ild1 dX6_feed_18 ?_
      refine V_in1 2 ?_
      refine V_iv1 dX6_feed_19 wlX6_105 mdX4_add miX4_add rfl (hS.r2.1 0 (0, 4) rfl) rfl rfl (kX4_add hS hn hn2 ⟨rfl, ?_⟩)
      refine V_ifeqB (tgt := 35) dX6_feed_22 (by decide) (fun c22 => ?_) (fun c22 => ?_)
      · rw [if_neg c22, va_up_id]
        refine V_ldc dX6_feed_35 wkX6_112 ?_
        refine V_ireturn dX6_feed_37 ⟨_, rfl, vp_nar_int _⟩ ?_
        exact hF ⟨c1, Int32.not_lt.mpr c8⟩ (by omega)
      · rw [if_pos c22]
        refine V_ald0 dX6_feed_25 ?_
        refine V_getR dX6_feed_26 flX6_19 (hS.r0.1 0 (0, 6) rfl) (hS.r0.2 1 (2, 0) rfl) ?_
        refine V_iv0 dX6_feed_29 wlX6_108 mdX4_length miX4_length rfl (hS.r2.1 0 (0, 4) rfl) rfl rfl (kX4_length hS ⟨rfl, ?_⟩)
        refine V_goto (tgt := 37) dX6_feed_32 (by decide) ?_
        refine V_ireturn dX6_feed_37 ⟨_, rfl, vp_nar_int _⟩ ?_
        exact hO ⟨c1, Int32.not_lt.mpr c8⟩ c22
    · skip
      refine V_ldc dX6_feed_11 wkX6_69 ?_
      refine V_ireturn dX6_feed_13 ⟨_, rfl, vp_nar_int _⟩ ?_
      exact hB (fun h => h.2 (Int32.not_le.mp c8))
theorem kX6_undo (hS : xSt Y G) {nx mn : Nat} (hnx : N 5 0 1 = nI nx) (hn : nx < 24) (hmn : N 5 0 2 = nI mn) (hm : mn ≤ 24) (hQ0 : mn = 0 → Q (some (xI (-1000002))) Y G N) (hQ1 : mn ≠ 0 → Q (some (xI (cBack (N 5) nx mn 0 2))) Y G (va_up (va_up N 5 (cBack (N 5) nx mn)) 3 (tLike (N 3) (N (6 + (nx + 23) % 24))))) : V RX6 false cX6_undo 1 (some .int) none (d + 3) b 0 [some (xR 0 0)] [] Y G N Q := by
  refine V_ald0 dX6_undo_0 ?_
  refine V_getR dX6_undo_1 flX6_36 (hS.r0.1 0 (0, 6) rfl) (hS.r0.2 4 (5, 0) rfl) ?_
  refine V_ald0 dX6_undo_4 ?_
  refine V_getR dX6_undo_5 flX6_26 (hS.r0.1 0 (0, 6) rfl) (hS.r0.2 2 (3, 0) rfl) ?_
  refine V_in1 5 ?_
  refine V_iv1 dX6_undo_8 wlX6_137 mdX0_takeBack miX0_takeBack rfl (hS.r5.1 0 (0, 0) rfl) rfl rfl (kX0_takeBack hS hnx hn hmn hm (hS.tr 3 rfl) (by decide) (by decide) (fun h0 => ⟨rfl, ?_⟩) (fun h0 => ⟨rfl, ?_⟩))
  · skip
    rw [va_up_id]
    refine V_ifeq (tgt := 24) dX6_undo_11 (by decide) (fun _ => ?_) (fun c11 => absurd rfl c11)
    refine V_ldc dX6_undo_24 wkX6_143 ?_
    refine V_ireturn dX6_undo_26 ⟨_, rfl, vp_nar_int _⟩ ?_
    exact hQ0 h0
  · skip
    refine V_ifeq (tgt := 24) dX6_undo_11 (by decide) (fun c11 => absurd c11 (by decide)) (fun _ => ?_)
    refine V_ald0 dX6_undo_14 ?_
    refine V_getR dX6_undo_15 flX6_36 (hS.r0.1 0 (0, 6) rfl) (hS.r0.2 4 (5, 0) rfl) ?_
    refine V_comm (by decide) ?_
    refine V_iv0 dX6_undo_18 wlX6_140 mdX0_kept miX0_kept rfl (hS.r5.1 0 (0, 0) rfl) rfl rfl (kX0_kept hS ⟨rfl, ?_⟩)
    refine V_goto (tgt := 26) dX6_undo_21 (by decide) ?_
    refine V_ireturn dX6_undo_26 ⟨_, rfl, vp_nar_int _⟩ ?_
    rw [va_comm _ (by decide)]
    exact hQ1 h0
end K6
