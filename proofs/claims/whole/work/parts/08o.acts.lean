theorem part_nat2 {g : Nat → Int32} (hs : szOK g) {r : Nat} (hr : r < 8) {i n : Int32} (h0 : ¬ g r < 0) (h : rPart i n (g r)) : ∃ j m len, i = nI j ∧ n = nI m ∧ g r = nI len ∧ j + m ≤ len ∧ len ≤ 40 := by
  rcases hs r hr with e | ⟨k, hk, e⟩
  · rw [e] at h0; exact absurd (by decide) h0
  · have hn : ∃ m, m ≤ k ∧ n = nI m := by
      obtain ⟨_, h1, h2, _⟩ := h
      rw [e] at h2
      rcases pk_ix n (n := k + 1) (by omega) with q | q | ⟨m, q1, q2⟩
      · exact absurd q h1
      · exact absurd (Int32.lt_of_lt_of_le (nI_lt (Nat.lt_succ_self _) (by omega)) q) h2
      · exact ⟨m, by omega, q2⟩
    obtain ⟨m, hm, rfl⟩ := hn
    obtain ⟨j, h1, h2, h3, h4⟩ := part_nat hs hr (by omega) h0 h
    rw [e, nI_clamp (by omega)] at h4
    exact ⟨j, m, k, h1, rfl, e, h4, hk⟩
def rN1 (S : xT) (a : Nat) : xT := va_up (va_up S 14 (rBring (S 13) (S 14) 0 (67 * a) 67)) 0 (upd (va_up S 14 (rBring (S 13) (S 14) 0 (67 * a) 67) 0) 14 (nI (a + 1)))
def rN0 (S : xT) : xT := va_up (va_up S 14 (rBringI (S 14) 67 0 1541)) 0 (upd (va_up S 14 (rBringI (S 14) 67 0 1541) 0) 14 (nI 23))
def rNotes (S : xT) (a : Nat) : xT := if a = 24 then rN1 (rN0 S) 23 else rN1 S a
theorem rBringI_at (f : Nat → Int32) {i : Nat} (hi : 0 < i) : ∀ n k, rBringI f i 0 n k = if k < n then f (i + k) else f k
  | 0, k => by rw [rBringI, if_neg (by omega)]
  | n + 1, k => by
    rw [rBringI, Nat.zero_add]
    by_cases e : k = n
    · rw [e, upd_eq, rBringI_at f hi n (i + n), if_neg (by omega), if_pos (by omega)]
    · rw [upd_no _ _ e, rBringI_at f hi n k]
      by_cases h : k < n
      · rw [if_pos h, if_pos (by omega)]
      · rw [if_neg h, if_neg (by omega)]
section KM
variable {d : Nat} {b : Nat × Nat} {Y : xY} {G : xG} {N : xM} {S : xT} {f : Nat → Int32} {Q : Option xAV → xY → xG → xM → Prop} {c : Nat}
theorem kX7_copy (hM : xMo Y G) (hsz : szOK (S 2)) {a x e y z : Int32} (hB : ¬ (rIn a (nI 0) (nI 7) ∧ rIn e (nI 0) (nI 7)) → Q (some (xI (-1000001))) Y G (va_up N 40 S)) (h1 : ∀ ra rb, a = nI ra → ra < 8 → e = nI rb → rb < 8 → (S 2 ra < 0 ∨ S 2 rb < 0) → Q (some (xI (-1000010 - nI 1))) Y G (va_up N 40 (rFound S (nI 1)))) (h5 : ∀ ra rb, a = nI ra → ra < 8 → e = nI rb → rb < 8 → ¬ S 2 ra < 0 → ¬ S 2 rb < 0 → ¬ S 1 ra = S 1 rb → Q (some (xI (-1000010 - nI 5))) Y G (va_up N 40 (rFound S (nI 5)))) (h2 : ∀ ra rb, a = nI ra → ra < 8 → e = nI rb → rb < 8 → ¬ S 2 ra < 0 → ¬ S 2 rb < 0 → S 1 ra = S 1 rb → ¬ (rPart x z (S 2 ra) ∧ rPart y z (S 2 rb)) → Q (some (xI (-1000010 - nI 2))) Y G (va_up N 40 (rFound S (nI 2)))) (hO : ∀ ra rb i j n la lb, a = nI ra → ra < 8 → e = nI rb → rb < 8 → x = nI i → y = nI j → z = nI n → S 2 ra = nI la → S 2 rb = nI lb → i + n ≤ la → la ≤ 40 → j + n ≤ lb → lb ≤ 40 → S 1 ra = S 1 rb → ∀ S2, S2 0 = upd (S 0) 3 0 → (∀ t, t < n → S2 3 (40 * rb + j + t) = S 3 (40 * ra + i + t)) → (∀ q, (∀ t, t < n → q ≠ 40 * rb + j + t) → S2 3 q = S 3 q) → (∀ c, c ≠ 0 → c ≠ 3 → S2 c = S c) → Q (some (xI (nI n))) Y G (va_up N 40 S2)) : V RX7 false cX7_copy 9 (some .int) none (d + 2) b 0 [some (xR 40 0), some (xI a), some (xI x), some (xI e), some (xI y), some (xI z), none, none, none] [] Y G (va_up N 40 S) Q := by
  refine V_ald0 dX7_copy_0 ?_
  refine V_ild1 dX7_copy_1 ?_
  refine V_iv1 dX7_copy_2 wlX7_80 mdX7_isRow miX7_isRow rfl (hM.1 0 (0, 7) rfl) rfl rfl (kX7_isRow ⟨rfl, ?_⟩)
  refine V_ifeqB (tgt := 16) dX7_copy_5 (by decide) (fun c5 => ?_) (fun c5 => ?_)
  · skip
    refine V_ldc dX7_copy_16 wkX7_84 ?_
    refine V_ireturn dX7_copy_18 ⟨_, rfl, vp_nar_int _⟩ ?_
    exact hB (fun h => c5 h.1)
  · skip
    refine V_ald0 dX7_copy_8 ?_
    refine V_ild3 dX7_copy_9 ?_
    refine V_iv1 dX7_copy_10 wlX7_80 mdX7_isRow miX7_isRow rfl (hM.1 0 (0, 7) rfl) rfl rfl (kX7_isRow ⟨rfl, ?_⟩)
    refine V_ifneB (tgt := 19) dX7_copy_13 (by decide) (fun c13 => ?_) (fun c13 => ?_)
    · skip
      obtain ⟨ra, hra0, hra, rfl⟩ := rIn_k c5 (by decide) (by decide)
      obtain ⟨rb, hrb0, hrb, rfl⟩ := rIn_k c13 (by decide) (by decide)
      refine V_ald0 dX7_copy_19 ?_
      refine V_getR dX7_copy_20 flX7_13 (hM.1 0 (0, 7) rfl) (show G 40 0 1 = some (40, 2) from hM.2 1 (1, 8) rfl) ?_
      refine V_ild1 dX7_copy_23 ?_
      refine V_iar dX7_copy_24 (hM.1 2 (1, 8) rfl) (by omega) (by decide) ?_
      refine V_iflt (tgt := 37) dX7_copy_25 (by decide) (fun c25 => ?_) (fun c25 => ?_)
      · skip
        refine V_ald0 dX7_copy_37 ?_
        refine V_iconst (v := nI 1) dX7_copy_38 (by decide) ?_
        refine V_iv1 dX7_copy_39 wlX7_85 mdX7_finds miX7_finds rfl (hM.1 0 (0, 7) rfl) rfl rfl (kX7_finds hM ⟨rfl, ?_⟩)
        refine V_ireturn dX7_copy_42 ⟨_, rfl, vp_nar_int _⟩ ?_
        exact h1 ra rb rfl (by omega) rfl (by omega) (Or.inl c25)
      · skip
        refine V_ald0 dX7_copy_28 ?_
        refine V_getR dX7_copy_29 flX7_13 (hM.1 0 (0, 7) rfl) (show G 40 0 1 = some (40, 2) from hM.2 1 (1, 8) rfl) ?_
        refine V_ild3 dX7_copy_32 ?_
        refine V_iar dX7_copy_33 (hM.1 2 (1, 8) rfl) (by omega) (by decide) ?_
        refine V_ifge (tgt := 43) dX7_copy_34 (by decide) (fun c34 => ?_) (fun c34 => ?_)
        · skip
          refine V_ald0 dX7_copy_43 ?_
          refine V_getR dX7_copy_44 flX7_7 (hM.1 0 (0, 7) rfl) (show G 40 0 0 = some (40, 1) from hM.2 0 (1, 8) rfl) ?_
          refine V_ild1 dX7_copy_47 ?_
          refine V_iar dX7_copy_48 (hM.1 1 (1, 8) rfl) (by omega) (by decide) ?_
          refine V_ald0 dX7_copy_49 ?_
          refine V_getR dX7_copy_50 flX7_7 (hM.1 0 (0, 7) rfl) (show G 40 0 0 = some (40, 1) from hM.2 0 (1, 8) rfl) ?_
          refine V_ild3 dX7_copy_53 ?_
          refine V_iar dX7_copy_54 (hM.1 1 (1, 8) rfl) (by omega) (by decide) ?_
          refine V_icmpeq (tgt := 64) dX7_copy_55 (by decide) (fun c55 => ?_) (fun c55 => ?_)
          · skip
            refine V_ild2 dX7_copy_64 ?_
            refine V_ild5 dX7_copy_65 ?_
            refine V_ald0 dX7_copy_67 ?_
            refine V_getR dX7_copy_68 flX7_13 (hM.1 0 (0, 7) rfl) (show G 40 0 1 = some (40, 2) from hM.2 1 (1, 8) rfl) ?_
            refine V_ild1 dX7_copy_71 ?_
            refine V_iar dX7_copy_72 (hM.1 2 (1, 8) rfl) (by omega) (by decide) ?_
            refine V_is3 dX7_copy_73 wlX7_93 mdX7_isPart msX7_isPart rfl rfl (kX7_isPart ⟨rfl, ?_⟩)
            refine V_ifeqB (tgt := 95) dX7_copy_76 (by decide) (fun c76 => ?_) (fun c76 => ?_)
            · skip
              refine V_ald0 dX7_copy_95 ?_
              refine V_iconst (v := nI 2) dX7_copy_96 (by decide) ?_
              refine V_iv1 dX7_copy_97 wlX7_85 mdX7_finds miX7_finds rfl (hM.1 0 (0, 7) rfl) rfl rfl (kX7_finds hM ⟨rfl, ?_⟩)
              refine V_ireturn dX7_copy_100 ⟨_, rfl, vp_nar_int _⟩ ?_
              exact h2 ra rb rfl (by omega) rfl (by omega) c25 (Int32.not_lt.mpr c34) c55 (fun h => c76 h.1)
            · skip
              refine V_ild4 dX7_copy_79 ?_
              refine V_ild5 dX7_copy_81 ?_
              refine V_ald0 dX7_copy_83 ?_
              refine V_getR dX7_copy_84 flX7_13 (hM.1 0 (0, 7) rfl) (show G 40 0 1 = some (40, 2) from hM.2 1 (1, 8) rfl) ?_
              refine V_ild3 dX7_copy_87 ?_
              refine V_iar dX7_copy_88 (hM.1 2 (1, 8) rfl) (by omega) (by decide) ?_
              refine V_is3 dX7_copy_89 wlX7_93 mdX7_isPart msX7_isPart rfl rfl (kX7_isPart ⟨rfl, ?_⟩)
              refine V_ifneB (tgt := 101) dX7_copy_92 (by decide) (fun c92 => ?_) (fun c92 => ?_)
              · skip
                obtain ⟨ii, nn, la, rfl, rfl, hla, hl1, hl2⟩ := part_nat2 hsz (by omega) c25 c76
                obtain ⟨jj, nn2, lb, rfl, hnn, hlb, hl3, hl4⟩ := part_nat2 hsz (by omega) (Int32.not_lt.mpr c34) c92
                obtain rfl : nn = nn2 := nI_inj (by omega) (by omega) hnn
                refine V_ald0 dX7_copy_101 ?_
                refine V_iconst (v := 0) dX7_copy_102 (by decide) ?_
                refine V_putIr dX7_copy_103 fwX7_65 (hM.1 0 (0, 7) rfl) ?_
                refine V_ild4 dX7_copy_106 ?_
                refine V_ild2 dX7_copy_108 ?_
                refine V_icmpleN (tgt := 116) dX7_copy_109 (by decide) (by omega) (by omega) (fun c109 => ?_) (fun c109 => ?_)
                · skip
                  refine V_iconst (v := 0) dX7_copy_116 (by decide) ?_
                  refine V_ist6 dX7_copy_117 rfl ?_
                  have hup : jj ≤ ii := by omega
                  refine V_iconst (v := nI 0) dX7_copy_119 (by decide) ?_
                  refine V_ist7 dX7_copy_120 rfl ?_
                  refine xDown (P := fun i => ∀ S2 l8, S2 0 = upd (S 0) 3 0 → (∀ t, t < i → S2 3 (40 * rb + jj + t) = S 3 (40 * ra + ii + t)) → (∀ q, (∀ t, t < i → q ≠ 40 * rb + jj + t) → S2 3 q = S 3 q) → (∀ c, c ≠ 0 → c ≠ 3 → S2 c = S c) → V RX7 false cX7_copy 9 (some .int) none (d + 2) b 122 [some (xR 40 0), some (xI (nI ra)), some (xI (nI ii)), some (xI (nI rb)), some (xI (nI jj)), some (xI (nI nn)), some (xI 0), some (xI (nI i)), l8] [] Y G (va_up N 40 S2) Q) nn ?_ 0 (Nat.zero_le _) _ none rfl (fun t h1 => absurd h1 (by omega)) (fun q _ => rfl) (fun c h0 h3 => by rw [va_up_no _ _ h0])
                  intro i hii hni S2 l8 e0 e3 e4 ec
                  refine V_ild7 dX7_copy_122 ?_
                  refine V_ild5 dX7_copy_124 ?_
                  refine V_icmpgeN (tgt := 183) dX7_copy_126 (by decide) (by omega) (by omega) (fun c126 => ?_) (fun c126 => ?_)
                  · skip
                    refine V_ild5 dX7_copy_183 ?_
                    refine V_ireturn dX7_copy_185 ⟨_, rfl, vp_nar_int _⟩ ?_
                    exact hO ra rb ii jj nn la lb rfl (by omega) rfl (by omega) rfl rfl rfl hla hlb hl1 hl2 hl3 hl4 c55 S2 e0 (fun t ht => e3 t (by omega)) (fun q hq => e4 q (fun t h2 => hq t (by omega))) ec
                  · skip
                    refine V_ild6 dX7_copy_129 ?_
                    refine V_ifeq (tgt := 144) dX7_copy_131 (by decide) (fun _ => ?_) (fun c131 => absurd rfl c131)
                    refine V_ild7 dX7_copy_144 ?_
                    refine V_ist8 dX7_copy_146 rfl ?_
                    refine V_ald0 dX7_copy_148 ?_
                    refine V_getR dX7_copy_149 flX7_16 (hM.1 0 (0, 7) rfl) (show G 40 0 2 = some (40, 3) from hM.2 2 (1, 320) rfl) ?_
                    refine V_bipush (v := nI 40) dX7_copy_152 (by decide) ?_
                    refine V_ild3 dX7_copy_154 ?_
                    refine V_imulN dX7_copy_155 ?_
                    refine V_ild4 dX7_copy_156 ?_
                    refine V_iaddN dX7_copy_158 ?_
                    refine V_ild8 dX7_copy_159 ?_
                    refine V_iaddN dX7_copy_161 ?_
                    refine V_ald0 dX7_copy_162 ?_
                    refine V_getR dX7_copy_163 flX7_16 (hM.1 0 (0, 7) rfl) (show G 40 0 2 = some (40, 3) from hM.2 2 (1, 320) rfl) ?_
                    refine V_bipush (v := nI 40) dX7_copy_166 (by decide) ?_
                    refine V_ild1 dX7_copy_168 ?_
                    refine V_imulN dX7_copy_169 ?_
                    refine V_ild2 dX7_copy_170 ?_
                    refine V_iaddN dX7_copy_171 ?_
                    refine V_ild8 dX7_copy_172 ?_
                    refine V_iaddN dX7_copy_174 ?_
                    refine V_iar dX7_copy_175 (hM.1 3 (1, 320) rfl) (by omega) (by decide) ?_
                    refine V_iasr dX7_copy_176 (hM.1 3 (1, 320) rfl) (by omega) (by decide) ?_
                    refine V_incN7 dX7_copy_177 rfl ?_
                    refine V_goto (tgt := 122) dX7_copy_180 (by decide) ?_
                    exact hni (by omega) _ _ (by rw [va_up_no _ _ (by decide)]; exact e0) (fun t h2 => by
                      rw [va_up_eq]
                      by_cases e : t = i
                      · rw [e, upd_eq]; exact e4 _ (fun t h2 => by omega)
                      · rw [upd_no _ _ (by omega)]; exact e3 t (by omega)) (fun q hq => by
                      rw [va_up_eq, upd_no _ _ (fun e => hq i (by omega) e)]
                      exact e4 q (fun t h2 => hq t (by omega))) (fun c h0 h3 => by rw [va_up_no _ _ h3]; exact ec c h0 h3)
                · skip
                  refine V_iconst (v := 1) dX7_copy_112 (by decide) ?_
                  refine V_goto (tgt := 117) dX7_copy_113 (by decide) ?_
                  refine V_ist6 dX7_copy_117 rfl ?_
                  have hup : ii < jj := by omega
                  refine V_iconst (v := nI 0) dX7_copy_119 (by decide) ?_
                  refine V_ist7 dX7_copy_120 rfl ?_
                  refine xDown (P := fun i => ∀ S2 l8, S2 0 = upd (S 0) 3 0 → (∀ t, nn - i ≤ t → t < nn → S2 3 (40 * rb + jj + t) = S 3 (40 * ra + ii + t)) → (∀ q, (∀ t, nn - i ≤ t → t < nn → q ≠ 40 * rb + jj + t) → S2 3 q = S 3 q) → (∀ c, c ≠ 0 → c ≠ 3 → S2 c = S c) → V RX7 false cX7_copy 9 (some .int) none (d + 2) b 122 [some (xR 40 0), some (xI (nI ra)), some (xI (nI ii)), some (xI (nI rb)), some (xI (nI jj)), some (xI (nI nn)), some (xI 1), some (xI (nI i)), l8] [] Y G (va_up N 40 S2) Q) nn ?_ 0 (Nat.zero_le _) _ none rfl (fun t h1 h2 => absurd h2 (by omega)) (fun q _ => rfl) (fun c h0 h3 => by rw [va_up_no _ _ h0])
                  intro i hii hni S2 l8 e0 e3 e4 ec
                  refine V_ild7 dX7_copy_122 ?_
                  refine V_ild5 dX7_copy_124 ?_
                  refine V_icmpgeN (tgt := 183) dX7_copy_126 (by decide) (by omega) (by omega) (fun c126 => ?_) (fun c126 => ?_)
                  · skip
                    refine V_ild5 dX7_copy_183 ?_
                    refine V_ireturn dX7_copy_185 ⟨_, rfl, vp_nar_int _⟩ ?_
                    exact hO ra rb ii jj nn la lb rfl (by omega) rfl (by omega) rfl rfl rfl hla hlb hl1 hl2 hl3 hl4 c55 S2 e0 (fun t ht => e3 t (by omega) ht) (fun q hq => e4 q (fun t _ h2 => hq t (by omega))) ec
                  · skip
                    refine V_ild6 dX7_copy_129 ?_
                    refine V_ifeq (tgt := 144) dX7_copy_131 (by decide) (fun c131 => absurd c131 (by decide)) (fun _ => ?_)
                    refine V_ild5 dX7_copy_134 ?_
                    refine V_iconst (v := nI 1) dX7_copy_136 (by decide) ?_
                    refine V_isubN (by omega) dX7_copy_137 ?_
                    refine V_ild7 dX7_copy_138 ?_
                    refine V_isubN (by omega) dX7_copy_140 ?_
                    refine V_goto (tgt := 146) dX7_copy_141 (by decide) ?_
                    refine V_ist8 dX7_copy_146 rfl ?_
                    refine V_ald0 dX7_copy_148 ?_
                    refine V_getR dX7_copy_149 flX7_16 (hM.1 0 (0, 7) rfl) (show G 40 0 2 = some (40, 3) from hM.2 2 (1, 320) rfl) ?_
                    refine V_bipush (v := nI 40) dX7_copy_152 (by decide) ?_
                    refine V_ild3 dX7_copy_154 ?_
                    refine V_imulN dX7_copy_155 ?_
                    refine V_ild4 dX7_copy_156 ?_
                    refine V_iaddN dX7_copy_158 ?_
                    refine V_ild8 dX7_copy_159 ?_
                    refine V_iaddN dX7_copy_161 ?_
                    refine V_ald0 dX7_copy_162 ?_
                    refine V_getR dX7_copy_163 flX7_16 (hM.1 0 (0, 7) rfl) (show G 40 0 2 = some (40, 3) from hM.2 2 (1, 320) rfl) ?_
                    refine V_bipush (v := nI 40) dX7_copy_166 (by decide) ?_
                    refine V_ild1 dX7_copy_168 ?_
                    refine V_imulN dX7_copy_169 ?_
                    refine V_ild2 dX7_copy_170 ?_
                    refine V_iaddN dX7_copy_171 ?_
                    refine V_ild8 dX7_copy_172 ?_
                    refine V_iaddN dX7_copy_174 ?_
                    refine V_iar dX7_copy_175 (hM.1 3 (1, 320) rfl) (by omega) (by decide) ?_
                    refine V_iasr dX7_copy_176 (hM.1 3 (1, 320) rfl) (by omega) (by decide) ?_
                    refine V_incN7 dX7_copy_177 rfl ?_
                    refine V_goto (tgt := 122) dX7_copy_180 (by decide) ?_
                    exact hni (by omega) _ _ (by rw [va_up_no _ _ (by decide)]; exact e0) (fun t h1 h2 => by
                      rw [va_up_eq]
                      by_cases e : t = nn - 1 - i
                      · rw [e, upd_eq]; exact e4 _ (fun t h1 h2 => by omega)
                      · rw [upd_no _ _ (by omega)]; exact e3 t (by omega) h2) (fun q hq => by
                      rw [va_up_eq, upd_no _ _ (fun e => hq (nn - 1 - i) (by omega) (by omega) e)]
                      exact e4 q (fun t h1 h2 => hq t (by omega) h2)) (fun c h0 h3 => by rw [va_up_no _ _ h3]; exact ec c h0 h3)
              · skip
                refine V_ald0 dX7_copy_95 ?_
                refine V_iconst (v := nI 2) dX7_copy_96 (by decide) ?_
                refine V_iv1 dX7_copy_97 wlX7_85 mdX7_finds miX7_finds rfl (hM.1 0 (0, 7) rfl) rfl rfl (kX7_finds hM ⟨rfl, ?_⟩)
                refine V_ireturn dX7_copy_100 ⟨_, rfl, vp_nar_int _⟩ ?_
                exact h2 ra rb rfl (by omega) rfl (by omega) c25 (Int32.not_lt.mpr c34) c55 (fun h => c92 h.2)
          · skip
            refine V_ald0 dX7_copy_58 ?_
            refine V_iconst (v := nI 5) dX7_copy_59 (by decide) ?_
            refine V_iv1 dX7_copy_60 wlX7_85 mdX7_finds miX7_finds rfl (hM.1 0 (0, 7) rfl) rfl rfl (kX7_finds hM ⟨rfl, ?_⟩)
            refine V_ireturn dX7_copy_63 ⟨_, rfl, vp_nar_int _⟩ ?_
            exact h5 ra rb rfl (by omega) rfl (by omega) c25 (Int32.not_lt.mpr c34) c55
        · skip
          refine V_ald0 dX7_copy_37 ?_
          refine V_iconst (v := nI 1) dX7_copy_38 (by decide) ?_
          refine V_iv1 dX7_copy_39 wlX7_85 mdX7_finds miX7_finds rfl (hM.1 0 (0, 7) rfl) rfl rfl (kX7_finds hM ⟨rfl, ?_⟩)
          refine V_ireturn dX7_copy_42 ⟨_, rfl, vp_nar_int _⟩ ?_
          exact h1 ra rb rfl (by omega) rfl (by omega) (Or.inr (Int32.not_le.mp c34))
    · skip
      refine V_ldc dX7_copy_16 wkX7_84 ?_
      refine V_ireturn dX7_copy_18 ⟨_, rfl, vp_nar_int _⟩ ?_
      exact hB (fun h => c13 h.2)
theorem kX7_notes (hM : xMo Y G) {an : Nat} (han : S 0 14 = nI an) (ha : an ≤ 24) (hQ : Q none Y G (va_up N 40 (rNotes S an))) : V RX7 false cX7_notes 1 none none (d + 1) b 0 [some (xR 40 0)] [] Y G (va_up N 40 S) Q := by
  refine V_ald0 dX7_notes_0 ?_
  refine V_getIr dX7_notes_1 flX7_159 (hM.1 0 (0, 7) rfl) ?_
  refine V_eqI han ?_
  refine V_bipush (v := nI 24) dX7_notes_4 (by decide) ?_
  refine V_icmpneN (tgt := 36) dX7_notes_6 (by decide) (by omega) (by omega) (fun c6 => ?_) (fun c6 => ?_)
  · skip
    refine V_ald0 dX7_notes_36 ?_
    refine V_getR dX7_notes_37 flX7_25 (hM.1 0 (0, 7) rfl) (show G 40 0 12 = some (40, 13) from hM.2 12 (1, 67) rfl) ?_
    refine V_iconst (v := nI 0) dX7_notes_40 (by decide) ?_
    refine V_ald0 dX7_notes_41 ?_
    refine V_getR dX7_notes_42 flX7_28 (hM.1 0 (0, 7) rfl) (show G 40 0 13 = some (40, 14) from hM.2 13 (1, 1608) rfl) ?_
    refine V_bipush (v := nI 67) dX7_notes_45 (by decide) ?_
    refine V_ald0 dX7_notes_47 ?_
    refine V_getIr dX7_notes_48 flX7_159 (hM.1 0 (0, 7) rfl) ?_
    refine V_eqI han ?_
    refine V_imulN dX7_notes_51 ?_
    refine V_bipush (v := nI 67) dX7_notes_52 (by decide) ?_
    refine V_sub 40 14 ?_
    refine V_is5 dX7_notes_54 wlX7_155 mdX7_bring msX7_bring rfl rfl (kX7_bring (c := 14) (a := 13) (by decide) (hM.1 13 (1, 67) rfl) (hM.1 14 (1, 1608) rfl) (by decide) (by decide) (by decide) (by omega) ⟨rfl, ?_⟩)
    refine V_ald0 dX7_notes_57 ?_
    refine V_dupR dX7_notes_58 ?_
    refine V_getIr dX7_notes_59 flX7_159 (hM.1 0 (0, 7) rfl) ?_
    refine V_eqI (show _ = nI an from han) ?_
    refine V_iconst (v := nI 1) dX7_notes_62 (by decide) ?_
    refine V_iaddN dX7_notes_63 ?_
    refine V_putIr dX7_notes_64 fwX7_159 (hM.1 0 (0, 7) rfl) ?_
    refine V_return dX7_notes_67 rfl ?_
    unfold rNotes at hQ
    rw [if_neg c6] at hQ
    exact hQ
  · skip
    refine V_ald0 dX7_notes_9 ?_
    refine V_getR dX7_notes_10 flX7_28 (hM.1 0 (0, 7) rfl) (show G 40 0 13 = some (40, 14) from hM.2 13 (1, 1608) rfl) ?_
    refine V_bipush (v := nI 67) dX7_notes_13 (by decide) ?_
    refine V_ald0 dX7_notes_15 ?_
    refine V_getR dX7_notes_16 flX7_28 (hM.1 0 (0, 7) rfl) (show G 40 0 13 = some (40, 14) from hM.2 13 (1, 1608) rfl) ?_
    refine V_iconst (v := nI 0) dX7_notes_19 (by decide) ?_
    refine V_sipush (v := nI 1541) dX7_notes_20 (by decide) ?_
    refine V_sub 40 14 ?_
    refine V_is5 dX7_notes_23 wlX7_155 mdX7_bring msX7_bring rfl rfl (kX7_bringI (c := 14) (i := 67) (j := 0) (n := 1541) (hM.1 14 (1, 1608) rfl) (by decide) (by decide) (by decide) ⟨rfl, ?_⟩)
    refine V_ald0 dX7_notes_26 ?_
    refine V_dupR dX7_notes_27 ?_
    refine V_getIr dX7_notes_28 flX7_159 (hM.1 0 (0, 7) rfl) ?_
    refine V_eqI (show _ = nI 24 from by rw [← c6]; exact han) ?_
    refine V_iconst (v := nI 1) dX7_notes_31 (by decide) ?_
    refine V_isubN (by decide) dX7_notes_32 ?_
    refine V_putIr dX7_notes_33 fwX7_159 (hM.1 0 (0, 7) rfl) ?_
    refine V_ald0 dX7_notes_36 ?_
    refine V_getR dX7_notes_37 flX7_25 (hM.1 0 (0, 7) rfl) (show G 40 0 12 = some (40, 13) from hM.2 12 (1, 67) rfl) ?_
    refine V_iconst (v := nI 0) dX7_notes_40 (by decide) ?_
    refine V_ald0 dX7_notes_41 ?_
    refine V_getR dX7_notes_42 flX7_28 (hM.1 0 (0, 7) rfl) (show G 40 0 13 = some (40, 14) from hM.2 13 (1, 1608) rfl) ?_
    refine V_bipush (v := nI 67) dX7_notes_45 (by decide) ?_
    refine V_ald0 dX7_notes_47 ?_
    refine V_getIr dX7_notes_48 flX7_159 (hM.1 0 (0, 7) rfl) ?_
    refine V_eqI (show _ = nI 23 from rfl) ?_
    refine V_imulN dX7_notes_51 ?_
    refine V_bipush (v := nI 67) dX7_notes_52 (by decide) ?_
    refine V_sub 40 14 ?_
    refine V_is5 dX7_notes_54 wlX7_155 mdX7_bring msX7_bring rfl rfl (kX7_bring (c := 14) (a := 13) (by decide) (hM.1 13 (1, 67) rfl) (hM.1 14 (1, 1608) rfl) (by decide) (by decide) (by decide) (by omega) ⟨rfl, ?_⟩)
    refine V_ald0 dX7_notes_57 ?_
    refine V_dupR dX7_notes_58 ?_
    refine V_getIr dX7_notes_59 flX7_159 (hM.1 0 (0, 7) rfl) ?_
    refine V_eqI (show _ = nI 23 from rfl) ?_
    refine V_iconst (v := nI 1) dX7_notes_62 (by decide) ?_
    refine V_iaddN dX7_notes_63 ?_
    refine V_putIr dX7_notes_64 fwX7_159 (hM.1 0 (0, 7) rfl) ?_
    refine V_return dX7_notes_67 rfl ?_
    unfold rNotes at hQ
    rw [if_pos c6] at hQ
    exact hQ
theorem kX7_undo (hM : xMo Y G) {an : Nat} (han : S 0 14 = nI an) (ha : an ≤ 24) (h0 : an = 0 → Q (some (xI (-1000002))) Y G (va_up N 40 S)) (h1 : an ≠ 0 → ∀ S2, S2 0 = upd (S 0) 14 (nI (an - 1)) → (∀ j, j < 67 → S2 13 j = S 14 (67 * (an - 1) + j)) → (∀ c, c ≠ 0 → c ≠ 13 → S2 c = S c) → Q (some (xI (nI (an - 1)))) Y G (va_up N 40 S2)) : V RX7 false cX7_undo 1 (some .int) none (d + 1) b 0 [some (xR 40 0)] [] Y G (va_up N 40 S) Q := by
  refine V_ald0 dX7_undo_0 ?_
  refine V_getIr dX7_undo_1 flX7_159 (hM.1 0 (0, 7) rfl) ?_
  refine V_eqI han ?_
  refine V_ifne (tgt := 10) dX7_undo_4 (by decide) (fun c4 => ?_) (fun c4 => ?_)
  · skip
    have ha0 : an ≠ 0 := fun e => c4 (by rw [e]; rfl)
    refine V_ald0 dX7_undo_10 ?_
    refine V_dupR dX7_undo_11 ?_
    refine V_getIr dX7_undo_12 flX7_159 (hM.1 0 (0, 7) rfl) ?_
    refine V_eqI (show _ = nI an from han) ?_
    refine V_iconst (v := nI 1) dX7_undo_15 (by decide) ?_
    refine V_isubN (by omega) dX7_undo_16 ?_
    refine V_putIr dX7_undo_17 fwX7_159 (hM.1 0 (0, 7) rfl) ?_
    refine V_ald0 dX7_undo_20 ?_
    refine V_getR dX7_undo_21 flX7_28 (hM.1 0 (0, 7) rfl) (show G 40 0 13 = some (40, 14) from hM.2 13 (1, 1608) rfl) ?_
    refine V_bipush (v := nI 67) dX7_undo_24 (by decide) ?_
    refine V_ald0 dX7_undo_26 ?_
    refine V_getIr dX7_undo_27 flX7_159 (hM.1 0 (0, 7) rfl) ?_
    refine V_eqI (show _ = nI (an - 1) from rfl) ?_
    refine V_imulN dX7_undo_30 ?_
    refine V_ald0 dX7_undo_31 ?_
    refine V_getR dX7_undo_32 flX7_25 (hM.1 0 (0, 7) rfl) (show G 40 0 12 = some (40, 13) from hM.2 12 (1, 67) rfl) ?_
    refine V_iconst (v := nI 0) dX7_undo_35 (by decide) ?_
    refine V_bipush (v := nI 67) dX7_undo_36 (by decide) ?_
    refine V_sub 40 13 ?_
    refine V_is5 dX7_undo_38 wlX7_155 mdX7_bring msX7_bring rfl rfl (kX7_bring (c := 13) (a := 14) (by decide) (hM.1 14 (1, 1608) rfl) (hM.1 13 (1, 67) rfl) (by decide) (by decide) (by omega) (by omega) ⟨rfl, ?_⟩)
    refine V_ald0 dX7_undo_41 ?_
    refine V_getIr dX7_undo_42 flX7_159 (hM.1 0 (0, 7) rfl) ?_
    refine V_eqI (show _ = nI (an - 1) from rfl) ?_
    refine V_ireturn dX7_undo_45 ⟨_, rfl, vp_nar_int _⟩ ?_
    exact h1 ha0 _ rfl (fun j hj => by rw [va_up_eq, rBring_at, if_pos ⟨Nat.zero_le _, by omega⟩, va_up_no _ _ (by decide), show j - 0 = j by omega]) (fun c h0 h13 => by rw [va_up_no _ _ h13, va_up_no _ _ h0])
  · skip
    refine V_ldc dX7_undo_7 wkX7_173 ?_
    refine V_ireturn dX7_undo_9 ⟨_, rfl, vp_nar_int _⟩ ?_
    exact h0 ((nI_eq (by omega) (by decide)).mp (show nI an = nI 0 from c4))
end KM
