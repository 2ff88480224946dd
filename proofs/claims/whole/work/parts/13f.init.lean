section KI
variable {d : Nat} {Y : xY} {G : xG} {N : xM} {Q : Option xAV → xY → xG → xM → Prop}
def nSz (N : xM) (i : Nat) : xM := xp N 40 2 (xFill (N 40 2) (-1) i)
theorem nSz_0 (N : xM) : nSz N 0 = N := by unfold nSz xp; rw [xFill_0, va_up_id, va_up_id]
theorem nSz_s (N : xM) (i : Nat) : xp (nSz N i) 40 2 (upd (nSz N i 40 2) i (-1)) = nSz N (i + 1) := by
  have e : nSz N i 40 2 = xFill (N 40 2) (-1) i := by unfold nSz; rw [xp_eq]
  rw [e, xFill_s]
  unfold nSz
  funext a b
  by_cases h : a = 40 ∧ b = 2
  · obtain ⟨rfl, rfl⟩ := h; rw [xp_eq, xp_eq]
  · rw [xp_no _ _ h, xp_no _ _ h, xp_no _ _ h]
theorem kX7_init (hY : ((40, 0), (0, 7)) ∈ Y) (hF : ∀ c, c ≠ 0 → ∀ k, ((40, c), k) ∉ Y) (hQ : ∀ Y2 G2 N2, Gr (fun q => q = 40) Y G Y2 G2 → xMo Y2 G2 → (∀ q, q ≠ 40 → N2 q = N q) → (∀ c, c ≠ 2 → c ≠ 18 → N2 40 c = N 40 c) → (∀ j, j < 8 → N2 40 2 j = -1) → Q none Y2 G2 N2) : V RX7 true cX7_init 2 none none (d + 2) (17, 2969) 0 [some (xR 40 0), none] [] Y G N Q := by
  refine V_rep 40 ?_
  refine V_ald0 dX7_init_0 ?_
  refine V_oinit dX7_init_1 wlX7_1 (by decide) ?_
  refine V_ald0 dX7_init_4 ?_
  refine V_bipush (v := nI 8) dX7_init_5 (by decide) ?_
  refine V_nI (b := (16, 2961)) (r := 40) (c := 1) (nn := 8) dX7_init_7 (by decide) (hF 1 (by decide)) rfl (by decide) (xVs_cons (yR_l hY) (xVs_nil (locC (xVl_r (yR_l hY)) (locN loc0)))) ?_
  refine V_pF (c := 1) (kd := (1, 8)) dX7_init_9 fwX7_7 hY rfl (by decide) ?_
  refine V_ald0 dX7_init_12 ?_
  refine V_bipush (v := nI 8) dX7_init_13 (by decide) ?_
  refine V_nI (b := (15, 2953)) (r := 40) (c := 2) (nn := 8) dX7_init_15 (by decide) (hF 2 (by decide)) rfl (by decide) (xVs_cons (yR_l hY) (xVs_nil (locC (xVl_r (yR_l hY)) (locN loc0)))) ?_
  refine V_pF (c := 2) (kd := (1, 8)) dX7_init_17 fwX7_13 hY rfl (by decide) ?_
  refine V_ald0 dX7_init_20 ?_
  refine V_sipush (v := nI 320) dX7_init_21 (by decide) ?_
  refine V_nI (b := (14, 2633)) (r := 40) (c := 3) (nn := 320) dX7_init_24 (by decide) (hF 3 (by decide)) rfl (by decide) (xVs_cons (yR_l hY) (xVs_nil (locC (xVl_r (yR_l hY)) (locN loc0)))) ?_
  refine V_pF (c := 3) (kd := (1, 320)) dX7_init_26 fwX7_16 hY rfl (by decide) ?_
  refine V_ald0 dX7_init_29 ?_
  refine V_bipush (v := nI 110) dX7_init_30 (by decide) ?_
  refine V_nI (b := (13, 2523)) (r := 40) (c := 5) (nn := 110) dX7_init_32 (by decide) (hF 5 (by decide)) rfl (by decide) (xVs_cons (yR_l hY) (xVs_nil (locC (xVl_r (yR_l hY)) (locN loc0)))) ?_
  refine V_pF (c := 5) (kd := (1, 110)) dX7_init_34 fwX7_19 hY rfl (by decide) ?_
  refine V_ald0 dX7_init_37 ?_
  refine V_bipush (v := nI 8) dX7_init_38 (by decide) ?_
  refine V_nI (b := (12, 2515)) (r := 40) (c := 11) (nn := 8) dX7_init_40 (by decide) (hF 11 (by decide)) rfl (by decide) (xVs_cons (yR_l hY) (xVs_nil (locC (xVl_r (yR_l hY)) (locN loc0)))) ?_
  refine V_pF (c := 11) (kd := (1, 8)) dX7_init_42 fwX7_22 hY rfl (by decide) ?_
  refine V_ald0 dX7_init_45 ?_
  refine V_bipush (v := nI 67) dX7_init_46 (by decide) ?_
  refine V_nI (b := (11, 2448)) (r := 40) (c := 13) (nn := 67) dX7_init_48 (by decide) (hF 13 (by decide)) rfl (by decide) (xVs_cons (yR_l hY) (xVs_nil (locC (xVl_r (yR_l hY)) (locN loc0)))) ?_
  refine V_pF (c := 13) (kd := (1, 67)) dX7_init_50 fwX7_25 hY rfl (by decide) ?_
  refine V_ald0 dX7_init_53 ?_
  refine V_sipush (v := nI 1608) dX7_init_54 (by decide) ?_
  refine V_nI (b := (10, 840)) (r := 40) (c := 14) (nn := 1608) dX7_init_57 (by decide) (hF 14 (by decide)) rfl (by decide) (xVs_cons (yR_l hY) (xVs_nil (locC (xVl_r (yR_l hY)) (locN loc0)))) ?_
  refine V_pF (c := 14) (kd := (1, 1608)) dX7_init_59 fwX7_28 hY rfl (by decide) ?_
  refine V_ald0 dX7_init_62 ?_
  refine V_sipush (v := nI 156) dX7_init_63 (by decide) ?_
  refine V_nI (b := (9, 684)) (r := 40) (c := 16) (nn := 156) dX7_init_66 (by decide) (hF 16 (by decide)) rfl (by decide) (xVs_cons (yR_l hY) (xVs_nil (locC (xVl_r (yR_l hY)) (locN loc0)))) ?_
  refine V_pF (c := 16) (kd := (1, 156)) dX7_init_68 fwX7_31 hY rfl (by decide) ?_
  refine V_ald0 dX7_init_71 ?_
  refine V_iconst (v := nI 2) dX7_init_72 (by decide) ?_
  refine V_nZ (b := (8, 682)) (r := 40) (c := 17) (nn := 2) dX7_init_73 (by decide) (hF 17 (by decide)) rfl (by decide) (xVs_cons (yR_l hY) (xVs_nil (locC (xVl_r (yR_l hY)) (locN loc0)))) ?_
  refine V_pF (c := 17) (kd := (4, 2)) dX7_init_75 fwX7_34 hY rfl (by decide) ?_
  refine V_ald0 dX7_init_78 ?_
  refine V_bipush (v := nI 6) dX7_init_79 (by decide) ?_
  refine V_nI (b := (7, 676)) (r := 40) (c := 18) (nn := 6) dX7_init_81 (by decide) (hF 18 (by decide)) rfl (by decide) (xVs_cons (yR_l hY) (xVs_nil (locC (xVl_r (yR_l hY)) (locN loc0)))) ?_
  refine V_pF (c := 18) (kd := (1, 6)) dX7_init_83 fwX7_38 hY rfl (by decide) ?_
  refine V_ald0 dX7_init_86 ?_
  refine V_bipush (v := nI 67) dX7_init_87 (by decide) ?_
  refine V_nI (b := (6, 609)) (r := 40) (c := 19) (nn := 67) dX7_init_89 (by decide) (hF 19 (by decide)) rfl (by decide) (xVs_cons (yR_l hY) (xVs_nil (locC (xVl_r (yR_l hY)) (locN loc0)))) ?_
  refine V_pF (c := 19) (kd := (1, 67)) dX7_init_91 fwX7_41 hY rfl (by decide) ?_
  refine V_ald0 dX7_init_94 ?_
  refine V_bipush (v := nI 16) dX7_init_95 (by decide) ?_
  refine V_nI (b := (5, 593)) (r := 40) (c := 20) (nn := 16) dX7_init_97 (by decide) (hF 20 (by decide)) rfl (by decide) (xVs_cons (yR_l hY) (xVs_nil (locC (xVl_r (yR_l hY)) (locN loc0)))) ?_
  refine V_pF (c := 20) (kd := (1, 16)) dX7_init_99 fwX7_44 hY rfl (by decide) ?_
  refine V_ald0 dX7_init_102 ?_
  refine V_bipush (v := nI 8) dX7_init_103 (by decide) ?_
  refine V_nI (b := (4, 585)) (r := 40) (c := 28) (nn := 8) dX7_init_105 (by decide) (hF 28 (by decide)) rfl (by decide) (xVs_cons (yR_l hY) (xVs_nil (locC (xVl_r (yR_l hY)) (locN loc0)))) ?_
  refine V_pF (c := 28) (kd := (1, 8)) dX7_init_107 fwX7_47 hY rfl (by decide) ?_
  refine V_ald0 dX7_init_110 ?_
  refine V_bipush (v := nI 67) dX7_init_111 (by decide) ?_
  refine V_nI (b := (3, 518)) (r := 40) (c := 29) (nn := 67) dX7_init_113 (by decide) (hF 29 (by decide)) rfl (by decide) (xVs_cons (yR_l hY) (xVs_nil (locC (xVl_r (yR_l hY)) (locN loc0)))) ?_
  refine V_pF (c := 29) (kd := (1, 67)) dX7_init_115 fwX7_50 hY rfl (by decide) ?_
  refine V_ald0 dX7_init_118 ?_
  refine V_bipush (v := nI 6) dX7_init_119 (by decide) ?_
  refine V_nI (b := (2, 512)) (r := 40) (c := 30) (nn := 6) dX7_init_121 (by decide) (hF 30 (by decide)) rfl (by decide) (xVs_cons (yR_l hY) (xVs_nil (locC (xVl_r (yR_l hY)) (locN loc0)))) ?_
  refine V_pF (c := 30) (kd := (1, 6)) dX7_init_123 fwX7_53 hY rfl (by decide) ?_
  refine V_ald0 dX7_init_126 ?_
  refine V_sipush (v := nI 256) dX7_init_127 (by decide) ?_
  refine V_nI (b := (1, 256)) (r := 40) (c := 31) (nn := 256) dX7_init_130 (by decide) (hF 31 (by decide)) rfl (by decide) (xVs_cons (yR_l hY) (xVs_nil (locC (xVl_r (yR_l hY)) (locN loc0)))) ?_
  refine V_pF (c := 31) (kd := (1, 256)) dX7_init_132 fwX7_56 hY rfl (by decide) ?_
  refine V_ald0 dX7_init_135 ?_
  refine V_sipush (v := nI 256) dX7_init_136 (by decide) ?_
  refine V_nI (b := (0, 0)) (r := 40) (c := 32) (nn := 256) dX7_init_139 (by decide) (hF 32 (by decide)) rfl (by decide) (xVs_cons (yR_l hY) (xVs_nil (locC (xVl_r (yR_l hY)) (locN loc0)))) ?_
  refine V_pF (c := 32) (kd := (1, 256)) dX7_init_141 fwX7_59 hY rfl (by decide) ?_
  have hM : ∀ (l : List (Nat × (Nat × Nat))) (F : Nat → Option (Nat × Nat)), (∀ c k, xMk c = some k → c ≠ 0 → (c, k) ∈ l) → (∀ k v, xMk (k + 1) = some v → F k = some (40, k + 1)) → xMo (yR Y 40 l) (xg G 40 0 F) := by
    intro l F h1 h2
    refine ⟨fun c k h => ?_, fun k v h => by rw [xg_eq]; exact h2 k v h⟩
    by_cases e : c = 0
    · subst e
      have e2 : some (0, 7) = some k := h
      cases e2
      exact yR_l hY
    · exact yR_in (h1 c k h e)
  refine V_iconst (v := nI 0) dX7_init_144 (by decide) ?_
  refine V_ist1 dX7_init_145 rfl ?_
  have fin : ∀ (Y2 : xY) (G2 : xG), Gr (fun q => q = 40) Y G Y2 G2 → xMo Y2 G2 → V RX7 true cX7_init 2 none none (d + 2) (0, 0) 146 [some (xR 40 0), some (xI (nI 0))] [] Y2 G2 N Q := by
    intro Y2 G2 g2 m2
    refine V_eqN (nSz_0 N).symm ?_
    refine xDown (P := fun i => V RX7 true cX7_init 2 none none (d + 2) (0, 0) 146 [some (xR 40 0), some (xI (nI i))] [] Y2 G2 (nSz N i) Q) 8 ?_ 0 (Nat.zero_le _)
    intro i hi hn
    refine V_ild1 dX7_init_146 ?_
    refine V_bipush (v := nI 8) dX7_init_147 (by decide) ?_
    refine V_icmpgeN (tgt := 165) dX7_init_149 (by decide) (by omega) (by omega) (fun c => ?_) (fun c => ?_)
    · have e8 : i = 8 := by omega
      subst e8
      refine V_ald0 dX7_init_165 ?_
      refine V_in1 40 ?_
      refine V_iv0 dX7_init_166 wlX7_62 mdX7_byNumbers miX7_byNumbers rfl (m2.1 0 (0, 7) rfl) rfl rfl (kX7_byNumbers m2 (fun g hg => ⟨rfl, ?_⟩))
      refine V_return dX7_init_169 rfl ?_
      refine hQ _ _ _ g2 m2 (fun q hq => ?_) (fun c h2 h18 => ?_) (fun j hj => ?_)
      · rw [va_up_no _ _ hq]
        unfold nSz xp
        rw [va_up_no _ _ hq]
      · rw [va_up_eq, va_up_no _ _ h18]
        unfold nSz
        rw [xp_no _ _ (by omega)]
      · rw [va_up_eq, va_up_no _ _ (by decide)]
        unfold nSz
        rw [xp_eq]
        unfold xFill
        rw [if_pos hj]
    · refine V_ald0 dX7_init_152 ?_
      refine V_getR dX7_init_153 flX7_13 (m2.1 0 (0, 7) rfl) (m2.2 1 (1, 8) rfl) ?_
      refine V_ild1 dX7_init_156 ?_
      refine V_iconst (v := (-1)) dX7_init_157 (by decide) ?_
      refine V_ias dX7_init_158 (m2.1 2 (1, 8) rfl) (by omega) (by decide) ?_
      refine V_eqN (nSz_s N i) ?_
      refine V_incN1 dX7_init_159 rfl ?_
      refine V_goto (tgt := 146) dX7_init_162 (by decide) ?_
      exact hn (by omega)
  refine fin _ _ yR_gr (hM _ _ (fun c k h e => ?_) (fun k v h => ?_))
  · unfold xMk at h
    split at h
    · exact absurd rfl e
    all_goals first | (cases h; decide) | cases h
  · have hk : k < 32 := by
      apply Classical.byContradiction
      intro q
      have : xMk (k + 1) = none := by
        unfold xMk
        split <;> first | omega | rfl
      rw [this] at h
      cases h
    have e : k = 0 ∨ k = 1 ∨ k = 2 ∨ k = 4 ∨ k = 10 ∨ k = 12 ∨ k = 13 ∨ k = 15 ∨ k = 16 ∨ k = 17 ∨ k = 18 ∨ k = 19 ∨ k = 27 ∨ k = 28 ∨ k = 29 ∨ k = 30 ∨ k = 31 := by
      have hall : ∀ k, k < 32 → (xMk (k + 1)).isSome = true → [0, 1, 2, 4, 10, 12, 13, 15, 16, 17, 18, 19, 27, 28, 29, 30, 31].contains k = true := by decide +kernel
      have h2 := hall k hk (by rw [h]; rfl)
      simp at h2
      omega
    rcases e with rfl | rfl | rfl | rfl | rfl | rfl | rfl | rfl | rfl | rfl | rfl | rfl | rfl | rfl | rfl | rfl | rfl <;> rfl
end KI
