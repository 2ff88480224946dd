section KI
variable {d : Nat} {Y : xY} {G : xG} {N : xM} {Q : Option xAV → xY → xG → xM → Prop}
theorem kX5_init {r : Nat} (hr : r < 1000000) (hY : ((r, 0), (0, 5)) ∈ Y) (hF : ∀ c, c ≠ 0 → ∀ k, ((r, c), k) ∉ Y) (hN : ∀ c k, N r c k = 0) (hQ : ∀ Y2 G2, Gr (fun q => q = r) Y G Y2 G2 → xTr Y2 G2 r → Q none Y2 G2 N) : V RX5 true cX5_init 1 none none (d + 1) (10, 74) 0 [some (xR r 0)] [] Y G N Q := by
  refine V_rep r ?_
  refine V_ald0 dX5_init_0 ?_
  refine V_oinit dX5_init_1 wlX5_3 (by decide) ?_
  refine V_ald0 dX5_init_4 ?_
  refine V_iconst (v := 0) dX5_init_5 (by decide) ?_
  refine V_pZ dX5_init_6 fwX5_9 (yR_l hY) (hN _ _) ?_
  refine V_ald0 dX5_init_9 ?_
  refine V_iconst (v := 0) dX5_init_10 (by decide) ?_
  refine V_pZ dX5_init_11 fwX5_15 (yR_l hY) (hN _ _) ?_
  refine V_ald0 dX5_init_14 ?_
  refine V_iconst (v := 0) dX5_init_15 (by decide) ?_
  refine V_pZ dX5_init_16 fwX5_18 (yR_l hY) (hN _ _) ?_
  refine V_ald0 dX5_init_19 ?_
  refine V_iconst (v := 0) dX5_init_20 (by decide) ?_
  refine V_pZ dX5_init_21 fwX5_21 (yR_l hY) (hN _ _) ?_
  refine V_ald0 dX5_init_24 ?_
  refine V_iconst (v := 0) dX5_init_25 (by decide) ?_
  refine V_pZ dX5_init_26 fwX5_24 (yR_l hY) (hN _ _) ?_
  refine V_ald0 dX5_init_29 ?_
  refine V_bipush (v := nI 6) dX5_init_30 (by decide) ?_
  refine V_nI (b := (9, 68)) (r := r) (c := 6) (nn := 6) dX5_init_32 (by decide) (hF 6 (by decide)) rfl hr (xVs_cons (yR_l hY) (xVs_nil (locC (xVl_r (yR_l hY)) (loc0)))) ?_
  refine V_pF (c := 6) (kd := (1, 6)) dX5_init_34 fwX5_27 hY rfl (by decide) ?_
  refine V_ald0 dX5_init_37 ?_
  refine V_bipush (v := nI 6) dX5_init_38 (by decide) ?_
  refine V_nI (b := (8, 62)) (r := r) (c := 7) (nn := 6) dX5_init_40 (by decide) (hF 7 (by decide)) rfl hr (xVs_cons (yR_l hY) (xVs_nil (locC (xVl_r (yR_l hY)) (loc0)))) ?_
  refine V_pF (c := 7) (kd := (1, 6)) dX5_init_42 fwX5_31 hY rfl (by decide) ?_
  refine V_ald0 dX5_init_45 ?_
  refine V_bipush (v := nI 6) dX5_init_46 (by decide) ?_
  refine V_nI (b := (7, 56)) (r := r) (c := 8) (nn := 6) dX5_init_48 (by decide) (hF 8 (by decide)) rfl hr (xVs_cons (yR_l hY) (xVs_nil (locC (xVl_r (yR_l hY)) (loc0)))) ?_
  refine V_pF (c := 8) (kd := (1, 6)) dX5_init_50 fwX5_34 hY rfl (by decide) ?_
  refine V_ald0 dX5_init_53 ?_
  refine V_bipush (v := nI 8) dX5_init_54 (by decide) ?_
  refine V_nI (b := (6, 48)) (r := r) (c := 9) (nn := 8) dX5_init_56 (by decide) (hF 9 (by decide)) rfl hr (xVs_cons (yR_l hY) (xVs_nil (locC (xVl_r (yR_l hY)) (loc0)))) ?_
  refine V_pF (c := 9) (kd := (1, 8)) dX5_init_58 fwX5_37 hY rfl (by decide) ?_
  refine V_ald0 dX5_init_61 ?_
  refine V_bipush (v := nI 8) dX5_init_62 (by decide) ?_
  refine V_nI (b := (5, 40)) (r := r) (c := 10) (nn := 8) dX5_init_64 (by decide) (hF 10 (by decide)) rfl hr (xVs_cons (yR_l hY) (xVs_nil (locC (xVl_r (yR_l hY)) (loc0)))) ?_
  refine V_pF (c := 10) (kd := (1, 8)) dX5_init_66 fwX5_40 hY rfl (by decide) ?_
  refine V_ald0 dX5_init_69 ?_
  refine V_bipush (v := nI 8) dX5_init_70 (by decide) ?_
  refine V_nI (b := (4, 32)) (r := r) (c := 11) (nn := 8) dX5_init_72 (by decide) (hF 11 (by decide)) rfl hr (xVs_cons (yR_l hY) (xVs_nil (locC (xVl_r (yR_l hY)) (loc0)))) ?_
  refine V_pF (c := 11) (kd := (1, 8)) dX5_init_74 fwX5_43 hY rfl (by decide) ?_
  refine V_ald0 dX5_init_77 ?_
  refine V_bipush (v := nI 8) dX5_init_78 (by decide) ?_
  refine V_nI (b := (3, 24)) (r := r) (c := 12) (nn := 8) dX5_init_80 (by decide) (hF 12 (by decide)) rfl hr (xVs_cons (yR_l hY) (xVs_nil (locC (xVl_r (yR_l hY)) (loc0)))) ?_
  refine V_pF (c := 12) (kd := (1, 8)) dX5_init_82 fwX5_46 hY rfl (by decide) ?_
  refine V_ald0 dX5_init_85 ?_
  refine V_bipush (v := nI 8) dX5_init_86 (by decide) ?_
  refine V_nI (b := (2, 16)) (r := r) (c := 13) (nn := 8) dX5_init_88 (by decide) (hF 13 (by decide)) rfl hr (xVs_cons (yR_l hY) (xVs_nil (locC (xVl_r (yR_l hY)) (loc0)))) ?_
  refine V_pF (c := 13) (kd := (1, 8)) dX5_init_90 fwX5_49 hY rfl (by decide) ?_
  refine V_ald0 dX5_init_93 ?_
  refine V_bipush (v := nI 8) dX5_init_94 (by decide) ?_
  refine V_nI (b := (1, 8)) (r := r) (c := 14) (nn := 8) dX5_init_96 (by decide) (hF 14 (by decide)) rfl hr (xVs_cons (yR_l hY) (xVs_nil (locC (xVl_r (yR_l hY)) (loc0)))) ?_
  refine V_pF (c := 14) (kd := (1, 8)) dX5_init_98 fwX5_52 hY rfl (by decide) ?_
  refine V_ald0 dX5_init_101 ?_
  refine V_bipush (v := nI 8) dX5_init_102 (by decide) ?_
  refine V_nI (b := (0, 0)) (r := r) (c := 15) (nn := 8) dX5_init_104 (by decide) (hF 15 (by decide)) rfl hr (xVs_cons (yR_l hY) (xVs_nil (locC (xVl_r (yR_l hY)) (loc0)))) ?_
  refine V_pF (c := 15) (kd := (1, 8)) dX5_init_106 fwX5_55 hY rfl (by decide) ?_
  refine V_return dX5_init_109 rfl ?_
  refine hQ _ _ yR_gr ⟨fun c k h => ?_, fun k h1 h2 => ?_⟩
  · unfold xTk at h
    split at h
    · cases h; exact yR_l hY
    all_goals first | (cases h; exact yR_in (by decide)) | cases h
  · rw [xg_eq]
    rcases (show k = 5 ∨ k = 6 ∨ k = 7 ∨ k = 8 ∨ k = 9 ∨ k = 10 ∨ k = 11 ∨ k = 12 ∨ k = 13 ∨ k = 14 by omega) with rfl | rfl | rfl | rfl | rfl | rfl | rfl | rfl | rfl | rfl <;> rfl
theorem kX1_init (hY : ((32, 0), (0, 1)) ∈ Y) (hF : ∀ c, c ≠ 0 → ∀ k, ((32, c), k) ∉ Y) (hN : ∀ c k, N 32 c k = 0) (hQ : ∀ Y2 G2, Gr (fun q => q = 32) Y G Y2 G2 → xReg Y2 G2 32 xK32 xJ32 → Q none Y2 G2 N) : V RX1 true cX1_init 1 none none (d + 1) (1, 16) 0 [some (xR 32 0)] [] Y G N Q := by
  refine V_rep 32 ?_
  refine V_ald0 dX1_init_0 ?_
  refine V_oinit dX1_init_1 wlX1_3 (by decide) ?_
  refine V_ald0 dX1_init_4 ?_
  refine V_bipush (v := nI 16) dX1_init_5 (by decide) ?_
  refine V_nI (b := (0, 0)) (r := 32) (c := 1) (nn := 16) dX1_init_7 (by decide) (hF 1 (by decide)) rfl (by decide) (xVs_cons (yR_l hY) (xVs_nil (locC (xVl_r (yR_l hY)) (loc0)))) ?_
  refine V_pF (c := 1) (kd := (1, 16)) dX1_init_9 fwX1_11 hY rfl (by decide) ?_
  refine V_ald0 dX1_init_12 ?_
  refine V_iconst (v := 0) dX1_init_13 (by decide) ?_
  refine V_pZ dX1_init_14 fwX1_15 (yR_l hY) (hN _ _) ?_
  refine V_return dX1_init_17 rfl ?_
  refine hQ _ _ yR_gr ⟨fun c k h => ?_, fun k q h => ?_⟩
  · unfold xK32 at h
    split at h
    · cases h; exact yR_l hY
    all_goals first | (cases h; exact yR_in (by decide)) | cases h
  · rw [xg_eq]
    unfold xJ32 at h
    split at h
    all_goals first | (cases h; rfl) | cases h
theorem kX4_init (hY : ((2, 0), (0, 4)) ∈ Y) (hF : ∀ c, c ≠ 0 → ∀ k, ((2, c), k) ∉ Y) (hN : ∀ c k, N 2 c k = 0) (hQ : ∀ Y2 G2, Gr (fun q => q = 2) Y G Y2 G2 → xReg Y2 G2 2 xK2 xJ2 → Q none Y2 G2 N) : V RX4 true cX4_init 1 none none (d + 1) (1, 110) 0 [some (xR 2 0)] [] Y G N Q := by
  refine V_rep 2 ?_
  refine V_ald0 dX4_init_0 ?_
  refine V_oinit dX4_init_1 wlX4_3 (by decide) ?_
  refine V_ald0 dX4_init_4 ?_
  refine V_bipush (v := nI 110) dX4_init_5 (by decide) ?_
  refine V_nI (b := (0, 0)) (r := 2) (c := 1) (nn := 110) dX4_init_7 (by decide) (hF 1 (by decide)) rfl (by decide) (xVs_cons (yR_l hY) (xVs_nil (locC (xVl_r (yR_l hY)) (loc0)))) ?_
  refine V_pF (c := 1) (kd := (1, 110)) dX4_init_9 fwX4_11 hY rfl (by decide) ?_
  refine V_ald0 dX4_init_12 ?_
  refine V_iconst (v := 0) dX4_init_13 (by decide) ?_
  refine V_pZ dX4_init_14 fwX4_15 (yR_l hY) (hN _ _) ?_
  refine V_ald0 dX4_init_17 ?_
  refine V_iconst (v := 0) dX4_init_18 (by decide) ?_
  refine V_pZ dX4_init_19 fwX4_19 (yR_l hY) (hN _ _) ?_
  refine V_ald0 dX4_init_22 ?_
  refine V_iconst (v := 0) dX4_init_23 (by decide) ?_
  refine V_pZ dX4_init_24 fwX4_22 (yR_l hY) (hN _ _) ?_
  refine V_ald0 dX4_init_27 ?_
  refine V_iconst (v := 0) dX4_init_28 (by decide) ?_
  refine V_pZ dX4_init_29 fwX4_25 (yR_l hY) (hN _ _) ?_
  refine V_return dX4_init_32 rfl ?_
  refine hQ _ _ yR_gr ⟨fun c k h => ?_, fun k q h => ?_⟩
  · unfold xK2 at h
    split at h
    · cases h; exact yR_l hY
    all_goals first | (cases h; exact yR_in (by decide)) | cases h
  · rw [xg_eq]
    unfold xJ2 at h
    split at h
    all_goals first | (cases h; rfl) | cases h
end KI
