section KI
variable {d : Nat} {Y : xY} {G : xG} {N : xM} {Q : Option xAV → xY → xG → xM → Prop}
theorem kX3_init (hY : ((30, 0), (0, 3)) ∈ Y) (hF : ∀ c, c ≠ 0 → ∀ k, ((30, c), k) ∉ Y) (hF31 : ∀ c k, ((31, c), k) ∉ Y) (hN : ∀ c k, N 30 c k = 0) (hN31 : ∀ c k, N 31 c k = 0) (hQ : ∀ Y2 G2, Gr (fun q => q = 30 ∨ q = 31) Y G Y2 G2 → xReg Y2 G2 30 xK30 xJ30 → xTr Y2 G2 31 → Q none Y2 G2 N) : V RX3 true cX3_init 1 none none (d + 2) (16, 4709) 0 [some (xR 30 0)] [] Y G N Q := by
  refine V_ald0 dX3_init_0 ?_
  refine V_oinit dX3_init_1 wlX3_3 (by decide) ?_
  refine V_ald0 dX3_init_4 ?_
  refine V_mk (b1 := (10, 74)) (b := (5, 4620)) (r := 31) dX3_init_5 dX3_init_8 dX3_init_9 ncX3_9 (Or.inr ⟨_, wnX3_11⟩) mdX5_init miX5_init (fun ρ => by simp [xt, Value.category]) (by decide) (hF31 0) (xVs_cons hY (xVs_nil (locC (xVl_r hY) loc0))) ?_
  have o1 : Gr (fun q => q = 31) Y G (Y ++ [((31, 0), (0, 5))]) G := Gr.one 31 0 (0, 5)
  refine kX5_init (by decide) (List.mem_append_right _ (List.mem_singleton.mpr rfl)) (fun c hc k hk => ?_) hN31 (fun Y2 G2 g1 t1 => ?_)
  · rcases List.mem_append.mp hk with h | h
    · exact hF31 c k h
    · have := List.mem_singleton.mp h
      cases this
      exact hc rfl
  have g2 := o1.tr g1
  have hY2 : ((30, 0), (0, 3)) ∈ Y2 := g2.1 _ hY
  have hF2 : ∀ c, c ≠ 0 → ∀ k, ((30, c), k) ∉ Y2 := fun c hc => g2.fr (by decide) (hF c hc)
  refine V_putRF dX3_init_12 fwX3_12 hY2 rfl (fun a ha => ⟨(0, 5), by cases ha; exact t1.1 0 (0, 5) rfl⟩) ?_
  refine V_rep 30 ?_
  refine V_ald0 dX3_init_15 ?_
  refine V_sipush (v := nI 256) dX3_init_16 (by decide) ?_
  refine V_nI (b := (4, 4364)) (r := 30) (c := 2) (nn := 256) dX3_init_19 (by decide) (hF2 2 (by decide)) rfl (by decide) (xVs_cons (yR_l hY2) (xVs_nil (locC (xVl_r (yR_l hY2)) (loc0)))) ?_
  refine V_pF (c := 2) (kd := (1, 256)) dX3_init_21 fwX3_18 hY2 rfl (by decide) ?_
  refine V_ald0 dX3_init_24 ?_
  refine V_sipush (v := nI 256) dX3_init_25 (by decide) ?_
  refine V_nI (b := (3, 4108)) (r := 30) (c := 3) (nn := 256) dX3_init_28 (by decide) (hF2 3 (by decide)) rfl (by decide) (xVs_cons (yR_l hY2) (xVs_nil (locC (xVl_r (yR_l hY2)) (loc0)))) ?_
  refine V_pF (c := 3) (kd := (1, 256)) dX3_init_30 fwX3_22 hY2 rfl (by decide) ?_
  refine V_ald0 dX3_init_33 ?_
  refine V_bipush (v := nI 6) dX3_init_34 (by decide) ?_
  refine V_nI (b := (2, 4102)) (r := 30) (c := 4) (nn := 6) dX3_init_36 (by decide) (hF2 4 (by decide)) rfl (by decide) (xVs_cons (yR_l hY2) (xVs_nil (locC (xVl_r (yR_l hY2)) (loc0)))) ?_
  refine V_pF (c := 4) (kd := (1, 6)) dX3_init_38 fwX3_25 hY2 rfl (by decide) ?_
  refine V_ald0 dX3_init_41 ?_
  refine V_bipush (v := nI 6) dX3_init_42 (by decide) ?_
  refine V_nI (b := (1, 4096)) (r := 30) (c := 5) (nn := 6) dX3_init_44 (by decide) (hF2 5 (by decide)) rfl (by decide) (xVs_cons (yR_l hY2) (xVs_nil (locC (xVl_r (yR_l hY2)) (loc0)))) ?_
  refine V_pF (c := 5) (kd := (1, 6)) dX3_init_46 fwX3_28 hY2 rfl (by decide) ?_
  refine V_ald0 dX3_init_49 ?_
  refine V_sipush (v := nI 4096) dX3_init_50 (by decide) ?_
  refine V_nI (b := (0, 0)) (r := 30) (c := 6) (nn := 4096) dX3_init_53 (by decide) (hF2 6 (by decide)) rfl (by decide) (xVs_cons (yR_l hY2) (xVs_nil (locC (xVl_r (yR_l hY2)) (loc0)))) ?_
  refine V_pF (c := 6) (kd := (1, 4096)) dX3_init_55 fwX3_31 hY2 rfl (by decide) ?_
  refine V_ald0 dX3_init_58 ?_
  refine V_null dX3_init_59 ?_
  refine V_putR dX3_init_60 fwX3_34 (yR_l hY2) (fun a ha => by cases ha) ?_
  rw [xg_eq, xg_xg]
  refine V_ald0 dX3_init_63 ?_
  refine V_iconst (v := 0) dX3_init_64 (by decide) ?_
  refine V_pZ dX3_init_65 fwX3_37 (yR_l hY2) (hN _ _) ?_
  refine V_ald0 dX3_init_68 ?_
  refine V_iconst (v := 0) dX3_init_69 (by decide) ?_
  refine V_pZ dX3_init_70 fwX3_41 (yR_l hY2) (hN _ _) ?_
  refine V_ald0 dX3_init_73 ?_
  refine V_iconst (v := 0) dX3_init_74 (by decide) ?_
  refine V_pZ dX3_init_75 fwX3_44 (yR_l hY2) (hN _ _) ?_
  refine V_ald0 dX3_init_78 ?_
  refine V_iconst (v := 0) dX3_init_79 (by decide) ?_
  refine V_pZ dX3_init_80 fwX3_47 (yR_l hY2) (hN _ _) ?_
  refine V_return dX3_init_83 rfl ?_
  have g3 : ∀ l F, Gr (fun q => q = 30 ∨ q = 30) Y2 G2 (yR Y2 30 l) (xg (xg G2 30 0 (va_up (G2 30 0) 0 (some (31, 0)))) 30 0 F) := fun l F => (Gr.pt 30 0 _).tr yR_gr
  refine hQ _ _ ((g2.tr (g3 _ _)).le (fun q hq => by omega)) ⟨fun c k h => ?_, fun k q h => ?_⟩ (t1.gr (g3 _ _) (by decide))
  · unfold xK30 at h
    split at h
    · cases h; exact yR_l hY2
    all_goals first | (cases h; exact yR_in (by decide)) | cases h
  · unfold xJ30 at h
    split at h
    all_goals first | (cases h; rfl) | cases h
theorem kX2_init (hY : ((1, 0), (0, 2)) ∈ Y) (hF : ∀ c, c ≠ 0 → ∀ k, ((1, c), k) ∉ Y) (hQ : ∀ Y2 G2, Gr (fun q => q = 1) Y G Y2 G2 → xReg Y2 G2 1 xK1 xJ1 → (∀ i, i < 8 → G2 1 1 i = some (1, 10 + i) ∧ ((1, 10 + i), (1, 40)) ∈ Y2) → Q none Y2 G2 (xp N 1 3 (xFill (N 1 3) (-1) 8))) : V RX2 true cX2_init 1 none none (d + 2) (11, 344) 0 [some (xR 1 0)] [] Y G N Q := by
  refine V_ald0 dX2_init_0 ?_
  refine V_oinit dX2_init_1 wlX2_1 (by decide) ?_
  refine V_ald0 dX2_init_4 ?_
  refine V_bipush (v := nI 8) dX2_init_5 (by decide) ?_
  refine V_bipush (v := nI 40) dX2_init_7 (by decide) ?_
  refine V_mna (b := (2, 16)) dX2_init_9 wcX2_9 (hF 1 (by decide)) (fun i hi => hF (10 + i) (by omega)) (xVs_cons hY (xVs_nil (locC (xVl_r hY) loc0))) ?_
  have hg : Gr (fun q => q = 1) Y G (Y ++ ([((1, 1), (3, 8))] ++ mnY)) (xg G 1 1 mnG) := by
    refine ⟨fun q hq => List.mem_append_left _ hq, fun q hq => ?_, fun q hq => by unfold xg; rw [va_up_no _ _ hq]⟩
    rcases List.mem_append.mp hq with h | h
    · exact Or.inl h
    · rcases List.mem_append.mp h with h | h
      · rw [List.mem_singleton.mp h]; exact Or.inr rfl
      · obtain ⟨a, k⟩ := q
        exact Or.inr (mnY_in h).1
  have hY2 : ((1, 0), (0, 2)) ∈ Y ++ ([((1, 1), (3, 8))] ++ mnY) := hg.1 _ hY
  have hY11 : ((1, 1), (3, 8)) ∈ Y ++ ([((1, 1), (3, 8))] ++ mnY) := List.mem_append_right _ (List.mem_append_left _ (List.mem_singleton.mpr rfl))
  have hF2 : ∀ c, c = 2 ∨ c = 3 → ∀ k, ((1, c), k) ∉ Y ++ ([((1, 1), (3, 8))] ++ mnY) := by
    intro c hc k hk
    rcases List.mem_append.mp hk with h | h
    · exact hF c (by omega) k h
    · rcases List.mem_append.mp h with h | h
      · have := List.mem_singleton.mp h
        cases this
        omega
      · have := (mnY_in h).2.1
        have e : 10 ≤ c := this
        omega
  have hR : ∀ i, i < 8 → ((1, 10 + i), (1, 40)) ∈ Y ++ ([((1, 1), (3, 8))] ++ mnY) := fun i hi => List.mem_append_right _ (List.mem_append_right _ (mnY_at hi))
  generalize Y ++ ([((1, 1), (3, 8))] ++ mnY) = Y1 at *
  refine V_putRF dX2_init_13 fwX2_11 hY2 rfl (fun a ha => ⟨(3, 8), by cases ha; exact hY11⟩) ?_
  refine V_rep 1 ?_
  refine V_ald0 dX2_init_16 ?_
  refine V_bipush (v := nI 8) dX2_init_17 (by decide) ?_
  refine V_nI (b := (1, 8)) (r := 1) (c := 2) (nn := 8) dX2_init_19 (by decide) (hF2 2 (by decide)) rfl (by decide) (xVs_cons (yR_l hY2) (xVs_nil (locC (xVl_r (yR_l hY2)) (loc0)))) ?_
  refine V_pF (c := 2) (kd := (1, 8)) dX2_init_21 fwX2_14 hY2 rfl (by decide) ?_
  refine V_ald0 dX2_init_24 ?_
  refine V_bipush (v := nI 8) dX2_init_25 (by decide) ?_
  refine V_nI (b := (0, 0)) (r := 1) (c := 3) (nn := 8) dX2_init_27 (by decide) (hF2 3 (by decide)) rfl (by decide) (xVs_cons (yR_l hY2) (xVs_nil (locC (xVl_r (yR_l hY2)) (loc0)))) ?_
  refine V_pF (c := 3) (kd := (1, 8)) dX2_init_29 fwX2_18 hY2 rfl (by decide) ?_
  refine V_ald0 dX2_init_32 ?_
  refine V_getR dX2_init_33 flX2_18 (yR_l hY2) (show _ = some (1, 3) from by rw [xg_eq]; rfl) ?_
  refine V_iconst (v := (-1)) dX2_init_36 (by decide) ?_
  refine V_is2 dX2_init_37 wlX2_21 mdJ7_fill_53178 msJ7_fill_53178 rfl rfl (kJ7_fill (r := 1) (c := 3) (n := 8) (yR_in (by decide)) (by decide) ⟨rfl, ?_⟩)
  refine V_return dX2_init_40 rfl ?_
  have g3 : ∀ l F, Gr (fun q => q = 1 ∨ q = 1) Y1 (xg G 1 1 mnG) (yR Y1 1 l) (xg (xg (xg G 1 1 mnG) 1 0 (va_up (xg G 1 1 mnG 1 0) 0 (some (1, 1)))) 1 0 F) := fun l F => (Gr.pt 1 0 _).tr yR_gr
  refine hQ _ _ ((hg.tr (g3 _ _)).le (fun q hq => by omega)) ⟨fun c k h => ?_, fun k q h => ?_⟩ (fun i hi => ⟨?_, yR_l (hR i hi)⟩)
  · unfold xK1 at h
    split at h
    · cases h; exact yR_l hY2
    · cases h; exact yR_l hY11
    all_goals first | (cases h; exact yR_in (by decide)) | cases h
  · unfold xJ1 at h
    split at h
    all_goals first | (cases h; rfl) | cases h
  · rw [xg_no _ _ (by omega), xg_no _ _ (by omega), xg_eq]
    unfold mnG
    rw [if_pos hi]
theorem kX0_init (hY : ((5, 0), (0, 0)) ∈ Y) (hF : ∀ c, c ≠ 0 → ∀ k, ((5, c), k) ∉ Y) (hFt : ∀ q, 6 ≤ q → q < 30 → ∀ c k, ((q, c), k) ∉ Y) (hN : ∀ q c k, 5 ≤ q → q < 30 → N q c k = 0) (hQ : ∀ Y2 G2, Gr (fun q => 5 ≤ q ∧ q < 30) Y G Y2 G2 → xReg Y2 G2 5 xK5 xJ5 → (∀ i, i < 24 → xTr Y2 G2 (6 + i) ∧ G2 5 1 i = some (6 + i, 0)) → Q none Y2 G2 N) : V RX0 true cX0_init 2 none none (d + 2) (265, 2160) 0 [some (xR 5 0), none] [] Y G N Q := by
  refine V_rep 5 ?_
  refine V_ald0 dX0_init_0 ?_
  refine V_oinit dX0_init_1 wlX0_1 (by decide) ?_
  refine V_ald0 dX0_init_4 ?_
  refine V_bipush (v := nI 24) dX0_init_5 (by decide) ?_
  refine V_nT (b := (264, 2136)) (r := 5) (c := 1) (nn := 24) dX0_init_7 wcX0_9 (by decide) (hF 1 (by decide)) rfl (by decide) (xVs_cons (yR_l hY) (xVs_nil (locC (xVl_r (yR_l hY)) (locN loc0)))) ?_
  refine V_pF (c := 1) (kd := (2, 24)) dX0_init_10 fwX0_11 hY rfl (by decide) ?_
  refine V_ald0 dX0_init_13 ?_
  refine V_iconst (v := 0) dX0_init_14 (by decide) ?_
  refine V_pZ dX0_init_15 fwX0_15 (yR_l hY) (hN _ _ _ (by decide) (by decide)) ?_
  refine V_ald0 dX0_init_18 ?_
  refine V_iconst (v := 0) dX0_init_19 (by decide) ?_
  refine V_pZ dX0_init_20 fwX0_19 (yR_l hY) (hN _ _ _ (by decide) (by decide)) ?_
  refine V_iconst (v := nI 0) dX0_init_23 (by decide) ?_
  refine V_ist1 dX0_init_24 rfl ?_
  have key : ∀ (f i : Nat) (Y1 : xY) (G1 : xG), i + f = 24 → Gr (fun q => 5 ≤ q ∧ q < 6 + i) Y G Y1 G1 → ((5, 1), (2, 24)) ∈ Y1 → G1 5 0 0 = some (5, 1) → (∀ j, j < i → xTr Y1 G1 (6 + j) ∧ G1 5 1 j = some (6 + j, 0)) → V RX0 true cX0_init 2 none none (d + 2) (11 * f, 89 * f) 25 [some (xR 5 0), some (xI (nI i))] [] Y1 G1 N Q := by
    intro f
    induction f with
    | zero =>
      intro i Y1 G1 hf g1 h51 h50 hT
      have e : i = 24 := by omega
      subst e
      refine V_ild1 dX0_init_25 ?_
      refine V_bipush (v := nI 24) dX0_init_26 (by decide) ?_
      refine V_icmpgeN (tgt := 50) dX0_init_28 (by decide) (by omega) (by omega) (fun _ => ?_) (fun c => absurd c (by omega))
      refine V_return dX0_init_50 rfl ?_
      refine hQ _ _ (g1.le (fun q hq => by omega)) ⟨fun c k h => ?_, fun k q h => ?_⟩ hT
      · unfold xK5 at h
        split at h
        · cases h; exact g1.1 _ hY
        · cases h; exact h51
        · cases h
      · unfold xJ5 at h
        split at h
        · cases h; exact h50
        · cases h
    | succ f ih =>
      intro i Y1 G1 hf g1 h51 h50 hT
      have hY1 : ((5, 0), (0, 0)) ∈ Y1 := g1.1 _ hY
      refine V_ild1 dX0_init_25 ?_
      refine V_bipush (v := nI 24) dX0_init_26 (by decide) ?_
      refine V_icmpgeN (tgt := 50) dX0_init_28 (by decide) (by omega) (by omega) (fun c => absurd c (by omega)) (fun _ => ?_)
      refine V_ald0 dX0_init_31 ?_
      refine V_getR dX0_init_32 flX0_11 hY1 h50 ?_
      refine V_ild1 dX0_init_35 ?_
      have hfr : ∀ c k, ((6 + i, c), k) ∉ Y1 := fun c => g1.fr (by omega) (hFt (6 + i) (by omega) (by omega) c)
      refine V.bud (b := (10 + 11 * f + 1, 74 + 89 * f + 15)) ?_ ⟨by show 10 + 11 * f + 1 ≤ 11 * (f + 1); omega, by show 74 + 89 * f + 15 ≤ 89 * (f + 1); omega⟩
      refine V_mk (b1 := (10, 74)) (b := (11 * f, 89 * f)) (r := 6 + i) dX0_init_36 dX0_init_39 dX0_init_40 ncX0_9 (Or.inr ⟨_, wnX0_22⟩) mdX5_init miX5_init (fun ρ => by simp [xt, Value.category]) (by omega) (hfr 0) (xVs_int (xVs_cons h51 (xVs_nil (locC (xVl_r hY1) (locC trivial loc0))))) ?_
      have o1 : Gr (fun q => q = 6 + i) Y1 G1 (Y1 ++ [((6 + i, 0), (0, 5))]) G1 := Gr.one (6 + i) 0 (0, 5)
      refine kX5_init (by omega) (List.mem_append_right _ (List.mem_singleton.mpr rfl)) (fun c hc k hk => ?_) (fun c k => hN (6 + i) c k (by omega) (by omega)) (fun Y2 G2 g2 t2 => ?_)
      · rcases List.mem_append.mp hk with h | h
        · exact hfr c k h
        · have := List.mem_singleton.mp h
          cases this
          exact hc rfl
      have g3 := o1.tr g2
      have hne : ¬ (5 = 6 + i ∨ 5 = 6 + i) := by omega
      refine V_aastore (a := 6 + i) (a' := 0) dX0_init_43 (g3.1 _ h51) ?_ (t2.1 0 (0, 5) rfl) ?_
      · rintro (q | q)
        · exact nI_pos (by omega) q
        · rw [nI_clamp (by omega)] at q; omega
      rw [nI_clamp (by omega)]
      refine V_incN1 dX0_init_44 rfl ?_
      refine V_goto (tgt := 25) dX0_init_47 (by decide) ?_
      have g4 : Gr (fun q => q = 5) Y2 G2 Y2 (xg G2 5 1 (va_up (G2 5 1) i (some (6 + i, 0)))) := Gr.pt 5 1 _
      refine ih (i + 1) _ _ (by omega) (((g1.tr g3).tr g4).le (fun q hq => by omega)) (g3.1 _ h51) ?_ (fun j hj => ⟨?_, ?_⟩)
      · rw [xg_no _ _ (by omega), g3.2.2 5 hne]
        exact h50
      · by_cases e : j = i
        · rw [e]
          exact t2.gr g4 (by omega)
        · exact ((hT j (by omega)).1.gr g3 (by omega)).gr g4 (by omega)
      · rw [xg_eq]
        by_cases e : j = i
        · rw [e, va_up_eq]
        · rw [va_up_no _ _ e, g3.2.2 5 hne]
          exact (hT j (by omega)).2
  refine key 24 0 _ _ (by omega) (yR_gr.le (fun q hq => by omega)) (yR_in (by decide)) (by rw [xg_eq]; rfl) (fun j hj => absurd hj (by omega))
end KI
