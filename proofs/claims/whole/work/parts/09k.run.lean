def uClr (U : xT) : xT := va_up U 0 (upd (U 0) 1 (nI 0))
section K6
variable {d : Nat} {b : Nat × Nat} {Y : xY} {G : xG} {N : xM} {T : xT} {Q : Option xAV → xY → xG → xM → Prop}
theorem V_in42 {own : String} {ini : Bool} {cc : ByteArray} {nL : Nat} {ret : Option FieldType} {X : Option (Nat × (Nat → Int32))} {pc : Nat} {loc : List (Option xAV)} {st : List xAV} (k : V own ini cc nL ret X d b pc loc st Y G (va_up (va_up N 4 (N 4)) 2 (N 2)) Q) : V own ini cc nL ret X d b pc loc st Y G N Q := by rw [va_up_id, va_up_id] at k; exact k
theorem kX6_run (hS : xSt Y G) {n : Nat} (hn : N 2 0 1 = nI n) (hn2 : n ≤ 110) (h0 : ∀ f pl U2 T2, pRun (N 2 1) n = .inl (f, pl) → uOK (N 2) U2 → Q (some (xI (-1000100 - nI pl))) Y G (va_up (va_up (va_up N 4 T2) 2 (uClr U2)) 0 (va_up (N 0) 0 (upd (N 0 0) 8 (nI f))))) (h1 : ∀ v ms ps U2, pRun (N 2 1) n = .inr (v, ms, ps) → uOK (N 2) U2 → Q (some (xI (tLike (N 3) (tPl (tMl (tBar (tClear (N 4)) v) 0 ms) 0 ps) 0 3))) Y G (va_up (va_up (va_up (va_up N 4 (tPl (tMl (tBar (tClear (N 4)) v) 0 ms) 0 ps)) 2 (uClr U2)) 3 (tLike (N 3) (tPl (tMl (tBar (tClear (N 4)) v) 0 ms) 0 ps))) 5 (va_up (N 5) 0 (upd (N 5 0) 2 (nI 0))))) : V RX6 false cX6_run 2 (some .int) none (d + 6) b 0 [some (xR 0 0), none] [] Y G N Q := by
  refine V_ald0 dX6_run_0 ?_
  refine V_getR dX6_run_1 flX6_19 (hS.r0.1 0 (0, 6) rfl) (hS.r0.2 1 (2, 0) rfl) ?_
  refine V_ald0 dX6_run_4 ?_
  refine V_getR dX6_run_5 flX6_30 (hS.r0.1 0 (0, 6) rfl) (hS.r0.2 3 (4, 0) rfl) ?_
  refine V_in42 ?_
  refine V_iv1 dX6_run_8 wlX6_113 mdX4_readInto miX4_readInto rfl (hS.r2.1 0 (0, 4) rfl) rfl rfl (kX4_readInto hS hn hn2 (fun f pl U2 T2 e1 e2 e3 e4 => ⟨rfl, ?_⟩) (fun v ms ps U2 e1 e2 => ⟨rfl, ?_⟩))
  · skip
    refine V_ist1 dX6_run_11 rfl ?_
    refine V_ald0 dX6_run_12 ?_
    refine V_getR dX6_run_13 flX6_19 (hS.r0.1 0 (0, 6) rfl) (hS.r0.2 1 (2, 0) rfl) ?_
    refine V_iv0 dX6_run_16 wlX6_117 mdX4_clear miX4_clear rfl (hS.r2.1 0 (0, 4) rfl) rfl rfl (kX4_clear hS ⟨rfl, ?_⟩)
    refine V_ild1 dX6_run_19 ?_
    refine V_ifne (tgt := 45) dX6_run_20 (by decide) (fun c20 => absurd rfl c20) (fun _ => ?_)
    refine V_ald0 dX6_run_23 ?_
    refine V_ald0 dX6_run_24 ?_
    refine V_getR dX6_run_25 flX6_19 (hS.r0.1 0 (0, 6) rfl) (hS.r0.2 1 (2, 0) rfl) ?_
    refine V_iv0 dX6_run_28 wlX6_120 mdX4_faultNumber miX4_faultNumber rfl (hS.r2.1 0 (0, 4) rfl) rfl rfl (kX4_faultNumber hS ⟨rfl, ?_⟩)
    refine V_eqI (show _ = nI f from e4) ?_
    refine V_in1 0 ?_
    refine V_putIr dX6_run_31 fwX6_58 (hS.r0.1 0 (0, 6) rfl) ?_
    refine V_ldc dX6_run_34 wkX6_123 ?_
    refine V_ald0 dX6_run_36 ?_
    refine V_getR dX6_run_37 flX6_19 (hS.r0.1 0 (0, 6) rfl) (hS.r0.2 1 (2, 0) rfl) ?_
    refine V_in1 2 ?_
    refine V_iv0 dX6_run_40 wlX6_124 mdX4_faultPlace miX4_faultPlace rfl (hS.r2.1 0 (0, 4) rfl) rfl rfl (kX4_faultPlace hS ⟨rfl, ?_⟩)
    rw [va_up_id]
    refine V_eqI (by rw [va_up_no _ _ (by decide), va_up_eq]; exact e3 : _ = nI pl) ?_
    refine V_isub dX6_run_43 ?_
    refine V_ireturn dX6_run_44 ⟨_, rfl, vp_nar_int _⟩ ?_
    exact h0 f pl U2 T2 e1 e2
  · skip
    refine V_ist1 dX6_run_11 rfl ?_
    refine V_ald0 dX6_run_12 ?_
    refine V_getR dX6_run_13 flX6_19 (hS.r0.1 0 (0, 6) rfl) (hS.r0.2 1 (2, 0) rfl) ?_
    refine V_iv0 dX6_run_16 wlX6_117 mdX4_clear miX4_clear rfl (hS.r2.1 0 (0, 4) rfl) rfl rfl (kX4_clear hS ⟨rfl, ?_⟩)
    refine V_ild1 dX6_run_19 ?_
    refine V_ifne (tgt := 45) dX6_run_20 (by decide) (fun _ => ?_) (fun c20 => absurd c20 (by decide))
    refine V_ald0 dX6_run_45 ?_
    refine V_getR dX6_run_46 flX6_26 (hS.r0.1 0 (0, 6) rfl) (hS.r0.2 2 (3, 0) rfl) ?_
    refine V_ald0 dX6_run_49 ?_
    refine V_getR dX6_run_50 flX6_30 (hS.r0.1 0 (0, 6) rfl) (hS.r0.2 3 (4, 0) rfl) ?_
    refine V_in1 3 ?_
    refine V_iv1 dX6_run_53 wlX6_127 mdX5_becomeLike miX5_becomeLike rfl ((hS.tr 3 rfl).1 0 (0, 5) rfl) rfl rfl (kX5_becomeLike (hS.tr 3 rfl) (hS.tr 4 rfl) (by decide) (S := (tPl (tMl (tBar (tClear (N 4)) v) 0 ms) 0 ps)) (by rw [va_up_no _ _ (by decide), va_up_eq]) ⟨rfl, ?_⟩)
    refine V_ald0 dX6_run_56 ?_
    refine V_getR dX6_run_57 flX6_36 (hS.r0.1 0 (0, 6) rfl) (hS.r0.2 4 (5, 0) rfl) ?_
    refine V_in1 5 ?_
    refine V_iv0 dX6_run_60 wlX6_131 mdX0_forget miX0_forget rfl (hS.r5.1 0 (0, 0) rfl) rfl rfl (kX0_forget hS ⟨rfl, ?_⟩)
    refine V_ald0 dX6_run_63 ?_
    refine V_getR dX6_run_64 flX6_26 (hS.r0.1 0 (0, 6) rfl) (hS.r0.2 2 (3, 0) rfl) ?_
    refine V_getI dX6_run_67 flX6_134 ((hS.tr 3 rfl).1 0 (0, 5) rfl) ?_
    refine V_eqI (by rw [va_up_no _ _ (by decide), va_up_eq, va_up_no _ _ (by decide), va_up_no _ _ (by decide)] : _ = tLike (N 3) (tPl (tMl (tBar (tClear (N 4)) v) 0 ms) 0 ps) 0 3) ?_
    refine V_ireturn dX6_run_70 ⟨_, rfl, vp_nar_int _⟩ ?_
    exact h1 v ms ps U2 e1 e2
end K6
