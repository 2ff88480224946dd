def rSt (S : xT) (mb pn : Nat) : Prop := S 0 8 = nI mb ∧ S 0 9 = nI pn ∧ ((mb = 0 ∧ pn = 0) ∨ (1 ≤ mb ∧ rOK (S 0) (S 11) mb pn (S 13)))
theorem rSt.okm {S : xT} {mb pn m : Nat} (h : rSt S mb pn) (hm : m < mb) : rOK (S 0) (S 11) mb pn (S 13) := by
  rcases h.2.2 with q | q
  · exact absurd hm (by omega)
  · exact q.2
theorem rSt.okp {S : xT} {mb pn p : Nat} (h : rSt S mb pn) (hp : p < pn) : rOK (S 0) (S 11) mb pn (S 13) := by
  rcases h.2.2 with q | q
  · exact absurd hp (by omega)
  · exact q.2
theorem rSt.b6 {S : xT} {mb pn : Nat} (h : rSt S mb pn) : mb ≤ 6 ∧ pn ≤ 8 := by
  rcases h.2.2 with q | q
  · omega
  · exact ⟨q.2.mb, q.2.pn⟩
theorem rSt.ok0 {S : xT} {mb pn : Nat} (h : rSt S mb pn) (hp : ¬ nI pn = 0) : 1 ≤ mb ∧ rOK (S 0) (S 11) mb pn (S 13) := by
  rcases h.2.2 with q | q
  · exact absurd (by rw [q.2]; rfl) hp
  · exact q
/-- what matters stays -/
def rKeep (S S2 : xT) : Prop := (∀ c, c ≠ 0 → c ≠ 18 → c ≠ 19 → c ≠ 28 → c ≠ 29 → c ≠ 30 → c ≠ 31 → c ≠ 32 → S2 c = S c) ∧ ∀ k, k < 21 → S2 0 k = S 0 k
theorem rKeep.rf (S : xT) : rKeep S S := ⟨fun _ _ _ _ _ _ _ _ _ => rfl, fun _ _ => rfl⟩
theorem rKeep.tr {S S2 S3 : xT} (h : rKeep S S2) (h' : rKeep S2 S3) : rKeep S S3 := ⟨fun c a1 a2 a3 a4 a5 a6 a7 a8 => (h'.1 c a1 a2 a3 a4 a5 a6 a7 a8).trans (h.1 c a1 a2 a3 a4 a5 a6 a7 a8), fun k hk => (h'.2 k hk).trans (h.2 k hk)⟩
theorem rKeep.up {S : xT} {c : Nat} (hc : c = 18 ∨ c = 19 ∨ c = 28 ∨ c = 29 ∨ c = 30 ∨ c = 31 ∨ c = 32) (f : Nat → Int32) : rKeep S (va_up S c f) := ⟨fun c' a1 a2 a3 a4 a5 a6 a7 a8 => va_up_no _ _ (by omega), fun k hk => by rw [va_up_no _ _ (by omega)]⟩
theorem rKeep.n (S : xT) (f : Nat → Int32) : rKeep S (va_up S 19 f) := rKeep.up (by omega) f
theorem rKeep.n2 {S S2 : xT} (h : rKeep S S2) (f : Nat → Int32) : rKeep S (va_up S2 19 f) := h.tr (rKeep.n S2 f)
theorem rIn_m {a : Int32} {n : Nat} (h : rIn a (nI 0) (nI n - nI 1)) (hn : n < 2 ^ 30) : ∃ m, m < n ∧ a = nI m := by
  rcases pk_ix a (n := n) (by omega) with q | q | q
  · exact absurd q h.1
  · exfalso
    apply h.2
    cases n with
    | zero => exact Int32.lt_of_lt_of_le (by decide) q
    | succ n =>
      rw [pk_sub (by omega)]
      exact Int32.lt_of_lt_of_le ((nI_ltI (by omega) (by omega)).mpr (by omega)) q
  · exact q
theorem rIn_k {a : Int32} {lo hi : Nat} (h : rIn a (nI lo) (nI hi)) (hh : hi < 2 ^ 30) (hl : lo < 2 ^ 30) : ∃ k, lo ≤ k ∧ k ≤ hi ∧ a = nI k := by
  rcases pk_ix a (n := hi + 1) (by omega) with q | q | ⟨k, q1, q2⟩
  · exact absurd (Int32.lt_of_lt_of_le q (Int32.not_lt.mp (nI_pos (by omega)))) h.1
  · exact absurd (Int32.lt_of_lt_of_le ((nI_ltI (by omega) (by omega)).mpr (Nat.lt_succ_self hi)) q) h.2
  · refine ⟨k, ?_, by omega, q2⟩
    rw [q2] at h
    exact Nat.le_of_not_lt fun e => h.1 ((nI_ltI (by omega) (by omega)).mpr e)
section KM
variable {d : Nat} {b : Nat × Nat} {Y : xY} {G : xG} {N : xM} {S : xT} {f : Nat → Int32} {Q : Option xAV → xY → xG → xM → Prop} {c : Nat}
theorem kX7_ahead (hM : xMo Y G) {mb pn : Nat} (hr : rSt S mb pn) {a z v : Int32} (hv : ∀ m k, a = nI m → m < mb → z = nI k → k ≤ 60 → ∀ f, ag f (S 13) → rGo (S 0) (S 11) mb k f (49 + m) = v) (hQ : ∀ S2, rKeep S S2 → Q (some (xI (if rIn a (nI 0) (nI mb - nI 1) ∧ rIn z (nI 0) (nI 60) then v else -1000001))) Y G (va_up N 40 S2)) : V RX7 false cX7_ahead 3 (some .int) none (d + 4) b 0 [some (xR 40 0), some (xI a), some (xI z)] [] Y G (va_up N 40 S) Q := by
  refine V_ald0 dX7_ahead_0 ?_
  refine V_ild1 dX7_ahead_1 ?_
  refine V_iv1 dX7_ahead_2 wlX7_192 mdX7_isMarble miX7_isMarble rfl (hM.1 0 (0, 7) rfl) rfl rfl (kX7_isMarble hM ⟨rfl, ?_⟩)
  rw [hr.1]
  refine V_ifeqB (tgt := 18) dX7_ahead_5 (by decide) (fun c5 => ?_) (fun c5 => ?_)
  · skip
    refine V_ldc dX7_ahead_18 wkX7_84 ?_
    refine V_ireturn dX7_ahead_20 ⟨_, rfl, vp_nar_int _⟩ ?_
    have hq := hQ S (rKeep.rf S)
    rw [if_neg (fun h => c5 h.1)] at hq
    exact hq
  · skip
    refine V_ild2 dX7_ahead_8 ?_
    refine V_iconst (v := nI 0) dX7_ahead_9 (by decide) ?_
    refine V_bipush (v := nI 60) dX7_ahead_10 (by decide) ?_
    refine V_is3 dX7_ahead_12 wlX7_70 mdX7_in msX7_in rfl rfl (kX7_in ⟨rfl, ?_⟩)
    refine V_ifneB (tgt := 21) dX7_ahead_15 (by decide) (fun c15 => ?_) (fun c15 => ?_)
    · skip
      obtain ⟨m, hm, rfl⟩ := rIn_m c5 (by have := hr.b6; omega)
      obtain ⟨k, hk0, hk1, rfl⟩ := rIn_k c15 (by decide) (by decide)
      have hk := hr.okm hm
      have hb6 := hr.b6
      refine V_ald0 dX7_ahead_21 ?_
      refine V_iv0 dX7_ahead_22 wlX7_202 mdX7_asItIs miX7_asItIs rfl (hM.1 0 (0, 7) rfl) rfl rfl (kX7_asItIs hM (fun f hf => ⟨rfl, ?_⟩))
      have hkf := hk.ag hf
      refine V_ald0 dX7_ahead_25 ?_
      refine V_ild2 dX7_ahead_26 ?_
      refine V_iv1 dX7_ahead_27 wlX7_205 mdX7_goes miX7_goes rfl (hM.1 0 (0, 7) rfl) rfl rfl (kX7_goes hM hkf (by omega) ⟨rfl, ?_⟩)
      refine V_ald0 dX7_ahead_30 ?_
      refine V_getR dX7_ahead_31 flX7_41 (hM.1 0 (0, 7) rfl) (show G 40 0 18 = some (40, 19) from hM.2 18 (1, 67) rfl) ?_
      refine V_bipush (v := nI 49) dX7_ahead_34 (by decide) ?_
      refine V_ild1 dX7_ahead_36 ?_
      refine V_iaddN dX7_ahead_37 ?_
      refine V_iar dX7_ahead_38 (hM.1 19 (1, 67) rfl) (by omega) (by decide) ?_
      refine V_ireturn dX7_ahead_39 ⟨_, rfl, vp_nar_int _⟩ ?_
      have hq := hQ _ (rKeep.n S (rGo (S 0) (S 11) mb k f))
      rw [if_pos ⟨c5, c15⟩, ← hv m k rfl hm rfl hk1 f hf] at hq
      exact hq
    · skip
      refine V_ldc dX7_ahead_18 wkX7_84 ?_
      refine V_ireturn dX7_ahead_20 ⟨_, rfl, vp_nar_int _⟩ ?_
      have hq := hQ S (rKeep.rf S)
      rw [if_neg (fun h => c15 h.2)] at hq
      exact hq
theorem kX7_stands (hM : xMo Y G) {mb pn : Nat} (hr : rSt S mb pn) {a z y v : Int32} (hv : ∀ m k, a = nI m → m < pn → z = nI k → k ≤ 60 → ∀ f, ag f (S 13) → (if y = 0 then rGo (S 0) (S 11) mb k f (1 + m) else if y = nI 1 then rGo (S 0) (S 11) mb k f (25 + m) else if y = nI 2 then rGo (S 0) (S 11) mb k f (33 + m) else rGo (S 0) (S 11) mb k f (41 + m)) = v) (hQ : ∀ S2, rKeep S S2 → Q (some (xI (if rIn a (nI 0) (nI pn - nI 1) ∧ rIn z (nI 0) (nI 60) ∧ rIn y (nI 0) (nI 3) then v else -1000001))) Y G (va_up N 40 S2)) : V RX7 false cX7_stands 4 (some .int) none (d + 4) b 0 [some (xR 40 0), some (xI a), some (xI z), some (xI y)] [] Y G (va_up N 40 S) Q := by
  refine V_ald0 dX7_stands_0 ?_
  refine V_ild1 dX7_stands_1 ?_
  refine V_iv1 dX7_stands_2 wlX7_189 mdX7_isPiece miX7_isPiece rfl (hM.1 0 (0, 7) rfl) rfl rfl (kX7_isPiece hM ⟨rfl, ?_⟩)
  rw [hr.2.1]
  refine V_ifeqB (tgt := 27) dX7_stands_5 (by decide) (fun c5 => ?_) (fun c5 => ?_)
  · skip
    refine V_ldc dX7_stands_27 wkX7_84 ?_
    refine V_ireturn dX7_stands_29 ⟨_, rfl, vp_nar_int _⟩ ?_
    have hq := hQ S (rKeep.rf S)
    rw [if_neg (fun h => c5 h.1)] at hq
    exact hq
  · skip
    refine V_ild2 dX7_stands_8 ?_
    refine V_iconst (v := nI 0) dX7_stands_9 (by decide) ?_
    refine V_bipush (v := nI 60) dX7_stands_10 (by decide) ?_
    refine V_is3 dX7_stands_12 wlX7_70 mdX7_in msX7_in rfl rfl (kX7_in ⟨rfl, ?_⟩)
    refine V_ifeqB (tgt := 27) dX7_stands_15 (by decide) (fun c15 => ?_) (fun c15 => ?_)
    · skip
      refine V_ldc dX7_stands_27 wkX7_84 ?_
      refine V_ireturn dX7_stands_29 ⟨_, rfl, vp_nar_int _⟩ ?_
      have hq := hQ S (rKeep.rf S)
      rw [if_neg (fun h => c15 h.2.1)] at hq
      exact hq
    · skip
      refine V_ild3 dX7_stands_18 ?_
      refine V_iconst (v := nI 0) dX7_stands_19 (by decide) ?_
      refine V_iconst (v := nI 3) dX7_stands_20 (by decide) ?_
      refine V_is3 dX7_stands_21 wlX7_70 mdX7_in msX7_in rfl rfl (kX7_in ⟨rfl, ?_⟩)
      refine V_ifneB (tgt := 30) dX7_stands_24 (by decide) (fun c24 => ?_) (fun c24 => ?_)
      · skip
        obtain ⟨m, hm, rfl⟩ := rIn_m c5 (by have := hr.b6; omega)
        obtain ⟨k, hk0, hk1, rfl⟩ := rIn_k c15 (by decide) (by decide)
        have hk := hr.okp hm
        have hb6 := hr.b6
        refine V_ald0 dX7_stands_30 ?_
        refine V_iv0 dX7_stands_31 wlX7_202 mdX7_asItIs miX7_asItIs rfl (hM.1 0 (0, 7) rfl) rfl rfl (kX7_asItIs hM (fun f hf => ⟨rfl, ?_⟩))
        have hkf := hk.ag hf
        refine V_ald0 dX7_stands_34 ?_
        refine V_ild2 dX7_stands_35 ?_
        refine V_iv1 dX7_stands_36 wlX7_205 mdX7_goes miX7_goes rfl (hM.1 0 (0, 7) rfl) rfl rfl (kX7_goes hM hkf (by omega) ⟨rfl, ?_⟩)
        refine V_ald0 dX7_stands_39 ?_
        refine V_getR dX7_stands_40 flX7_41 (hM.1 0 (0, 7) rfl) (show G 40 0 18 = some (40, 19) from hM.2 18 (1, 67) rfl) ?_
        refine V_ild3 dX7_stands_43 ?_
        refine V_ifne (tgt := 53) dX7_stands_44 (by decide) (fun c44 => ?_) (fun c44 => ?_)
        · skip
          refine V_ild3 dX7_stands_53 ?_
          refine V_iconst (v := nI 1) dX7_stands_54 (by decide) ?_
          refine V_icmpne (tgt := 65) dX7_stands_55 (by decide) (fun c55 => ?_) (fun c55 => ?_)
          · skip
            refine V_ild3 dX7_stands_65 ?_
            refine V_iconst (v := nI 2) dX7_stands_66 (by decide) ?_
            refine V_icmpne (tgt := 77) dX7_stands_67 (by decide) (fun c67 => ?_) (fun c67 => ?_)
            · skip
              refine V_bipush (v := nI 41) dX7_stands_77 (by decide) ?_
              refine V_ild1 dX7_stands_79 ?_
              refine V_iaddN dX7_stands_80 ?_
              refine V_iar dX7_stands_81 (hM.1 19 (1, 67) rfl) (by omega) (by decide) ?_
              refine V_ireturn dX7_stands_82 ⟨_, rfl, vp_nar_int _⟩ ?_
              have hq := hQ _ (rKeep.n S (rGo (S 0) (S 11) mb k f))
              have hvv := hv m k rfl hm rfl hk1 f hf
              rw [if_neg c44, if_neg c55, if_neg c67] at hvv
              rw [if_pos ⟨c5, c15, c24⟩, ← hvv] at hq
              exact hq
            · skip
              refine V_bipush (v := nI 33) dX7_stands_70 (by decide) ?_
              refine V_ild1 dX7_stands_72 ?_
              refine V_iaddN dX7_stands_73 ?_
              refine V_goto (tgt := 81) dX7_stands_74 (by decide) ?_
              refine V_iar dX7_stands_81 (hM.1 19 (1, 67) rfl) (by omega) (by decide) ?_
              refine V_ireturn dX7_stands_82 ⟨_, rfl, vp_nar_int _⟩ ?_
              have hq := hQ _ (rKeep.n S (rGo (S 0) (S 11) mb k f))
              have hvv := hv m k rfl hm rfl hk1 f hf
              rw [if_neg c44, if_neg c55, if_pos c67] at hvv
              rw [if_pos ⟨c5, c15, c24⟩, ← hvv] at hq
              exact hq
          · skip
            refine V_bipush (v := nI 25) dX7_stands_58 (by decide) ?_
            refine V_ild1 dX7_stands_60 ?_
            refine V_iaddN dX7_stands_61 ?_
            refine V_goto (tgt := 81) dX7_stands_62 (by decide) ?_
            refine V_iar dX7_stands_81 (hM.1 19 (1, 67) rfl) (by omega) (by decide) ?_
            refine V_ireturn dX7_stands_82 ⟨_, rfl, vp_nar_int _⟩ ?_
            have hq := hQ _ (rKeep.n S (rGo (S 0) (S 11) mb k f))
            have hvv := hv m k rfl hm rfl hk1 f hf
            rw [if_neg c44, if_pos c55] at hvv
            rw [if_pos ⟨c5, c15, c24⟩, ← hvv] at hq
            exact hq
        · skip
          refine V_iconst (v := nI 1) dX7_stands_47 (by decide) ?_
          refine V_ild1 dX7_stands_48 ?_
          refine V_iaddN dX7_stands_49 ?_
          refine V_goto (tgt := 81) dX7_stands_50 (by decide) ?_
          refine V_iar dX7_stands_81 (hM.1 19 (1, 67) rfl) (by omega) (by decide) ?_
          refine V_ireturn dX7_stands_82 ⟨_, rfl, vp_nar_int _⟩ ?_
          have hq := hQ _ (rKeep.n S (rGo (S 0) (S 11) mb k f))
          have hvv := hv m k rfl hm rfl hk1 f hf
          rw [if_pos c44] at hvv
          rw [if_pos ⟨c5, c15, c24⟩, ← hvv] at hq
          exact hq
      · skip
        refine V_ldc dX7_stands_27 wkX7_84 ?_
        refine V_ireturn dX7_stands_29 ⟨_, rfl, vp_nar_int _⟩ ?_
        have hq := hQ S (rKeep.rf S)
        rw [if_neg (fun h => c24 h.2.2)] at hq
        exact hq
theorem kX7_trays (hM : xMo Y G) {mb pn : Nat} (hr : rSt S mb pn) {z y v : Int32} (hv : ∀ k, z = nI k → k ≤ 60 → 1 ≤ mb → rOK (S 0) (S 11) mb pn (S 13) → ∀ f, ag f (S 13) → (if y = 0 then rThose (rGo (S 0) (S 11) mb k f) (nI 8) (nI 8) mb else rThose (rGo (S 0) (S 11) mb k f) (nI 9) (nI 9) mb) = v) (hQ : ∀ S2, rKeep S S2 → Q (some (xI (if nI pn = 0 then -1000002 else if rIn z (nI 0) (nI 60) ∧ rIn y (nI 0) (nI 1) then v else -1000001))) Y G (va_up N 40 S2)) : V RX7 false cX7_trays 3 (some .int) none (d + 4) b 0 [some (xR 40 0), some (xI z), some (xI y)] [] Y G (va_up N 40 S) Q := by
  refine V_ald0 dX7_trays_0 ?_
  refine V_iv0 dX7_trays_1 wlX7_174 mdX7_isNone miX7_isNone rfl (hM.1 0 (0, 7) rfl) rfl rfl (kX7_isNone hM ⟨rfl, ?_⟩)
  rw [hr.2.1]
  refine V_ifeqB (tgt := 10) dX7_trays_4 (by decide) (fun c4 => ?_) (fun c4 => ?_)
  · skip
    refine V_ild1 dX7_trays_10 ?_
    refine V_iconst (v := nI 0) dX7_trays_11 (by decide) ?_
    refine V_bipush (v := nI 60) dX7_trays_12 (by decide) ?_
    refine V_is3 dX7_trays_14 wlX7_70 mdX7_in msX7_in rfl rfl (kX7_in ⟨rfl, ?_⟩)
    refine V_ifeqB (tgt := 29) dX7_trays_17 (by decide) (fun c17 => ?_) (fun c17 => ?_)
    · skip
      refine V_ldc dX7_trays_29 wkX7_84 ?_
      refine V_ireturn dX7_trays_31 ⟨_, rfl, vp_nar_int _⟩ ?_
      have hq := hQ S (rKeep.rf S)
      rw [if_neg c4, if_neg (fun h => c17 h.1)] at hq
      exact hq
    · skip
      refine V_ild2 dX7_trays_20 ?_
      refine V_iconst (v := nI 0) dX7_trays_21 (by decide) ?_
      refine V_iconst (v := nI 1) dX7_trays_22 (by decide) ?_
      refine V_is3 dX7_trays_23 wlX7_70 mdX7_in msX7_in rfl rfl (kX7_in ⟨rfl, ?_⟩)
      refine V_ifneB (tgt := 32) dX7_trays_26 (by decide) (fun c26 => ?_) (fun c26 => ?_)
      · skip
        obtain ⟨k, hk0, hk1, rfl⟩ := rIn_k c17 (by decide) (by decide)
        have hk := (hr.ok0 c4).2
        have hb6 := hr.b6
        refine V_ald0 dX7_trays_32 ?_
        refine V_iv0 dX7_trays_33 wlX7_202 mdX7_asItIs miX7_asItIs rfl (hM.1 0 (0, 7) rfl) rfl rfl (kX7_asItIs hM (fun f hf => ⟨rfl, ?_⟩))
        have hkf := hk.ag hf
        refine V_ald0 dX7_trays_36 ?_
        refine V_ild1 dX7_trays_37 ?_
        refine V_iv1 dX7_trays_38 wlX7_205 mdX7_goes miX7_goes rfl (hM.1 0 (0, 7) rfl) rfl rfl (kX7_goes hM hkf (by omega) ⟨rfl, ?_⟩)
        refine V_ild2 dX7_trays_41 ?_
        refine V_ifne (tgt := 52) dX7_trays_42 (by decide) (fun c42 => ?_) (fun c42 => ?_)
        · skip
          refine V_ald0 dX7_trays_52 ?_
          refine V_iv0 dX7_trays_53 wlX7_211 mdX7_rightOf miX7_rightOf rfl (hM.1 0 (0, 7) rfl) rfl rfl (kX7_rightOf hM (hkf.go k) ⟨rfl, ?_⟩)
          refine V_ireturn dX7_trays_56 ⟨_, rfl, vp_nar_int _⟩ ?_
          have hq := hQ _ (rKeep.n S (rGo (S 0) (S 11) mb k f))
          have hvv := hv k rfl hk1 (hr.ok0 c4).1 hk f hf
          rw [if_neg c42] at hvv
          rw [if_neg c4, if_pos ⟨c17, c26⟩, ← hvv] at hq
          exact hq
        · skip
          refine V_ald0 dX7_trays_45 ?_
          refine V_iv0 dX7_trays_46 wlX7_208 mdX7_leftOf miX7_leftOf rfl (hM.1 0 (0, 7) rfl) rfl rfl (kX7_leftOf hM (hkf.go k) ⟨rfl, ?_⟩)
          refine V_goto (tgt := 56) dX7_trays_49 (by decide) ?_
          refine V_ireturn dX7_trays_56 ⟨_, rfl, vp_nar_int _⟩ ?_
          have hq := hQ _ (rKeep.n S (rGo (S 0) (S 11) mb k f))
          have hvv := hv k rfl hk1 (hr.ok0 c4).1 hk f hf
          rw [if_pos c42] at hvv
          rw [if_neg c4, if_pos ⟨c17, c26⟩, ← hvv] at hq
          exact hq
      · skip
        refine V_ldc dX7_trays_29 wkX7_84 ?_
        refine V_ireturn dX7_trays_31 ⟨_, rfl, vp_nar_int _⟩ ?_
        have hq := hQ S (rKeep.rf S)
        rw [if_neg c4, if_neg (fun h => c26 h.2)] at hq
        exact hq
  · skip
    refine V_ldc dX7_trays_7 wkX7_173 ?_
    refine V_ireturn dX7_trays_9 ⟨_, rfl, vp_nar_int _⟩ ?_
    have hq := hQ S (rKeep.rf S)
    rw [if_pos c4] at hq
    exact hq
end KM
