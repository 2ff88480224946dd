theorem jamA_add (cs : Nat → Nat) (a : Nat) : ∀ n, jamA cs (a + n) = jamA cs a + jamA (fun i => cs (a + i)) n
  | 0 => rfl
  | n + 1 => by rw [← Nat.add_assoc, jamA, jamA_add cs a n, jamA]; omega
theorem jamA_mul (cs : Nat → Nat) (m : Nat) : ∀ n, jamA (fun i => cs i * m) n = jamA cs n * m
  | 0 => by rw [jamA, jamA]; omega
  | n + 1 => by rw [jamA, jamA, jamA_mul cs m n, Nat.add_mul]
theorem jamA_cong {cs ct : Nat → Nat} : ∀ n, (∀ i, i < n → cs i = ct i) → jamA cs n = jamA ct n
  | 0, _ => rfl
  | n + 1, h => by rw [jamA, jamA, jamA_cong n (fun i hi => h i (by omega)), h n (by omega)]
theorem jamN_cong {cs ct : Nat → Nat} {pv : Nat → Bool} : ∀ n, (∀ i, i < n → cs i = ct i) → jamN cs pv n = jamN ct pv n
  | 0, _ => rfl
  | n + 1, h => by rw [jamN, jamN, jamN_cong n (fun i hi => h i (by omega)), h n (by omega)]
theorem csR_low {p pn s t : Nat} : ∀ i, (∀ j, j < i → s / 2 ^ j % 2 = t / 2 ^ j % 2) → csR p pn s i = csR p pn t i
  | 0, _ => rfl
  | i + 1, h => by rw [csR, csR, csR_low i (fun j hj => h j (by omega)), h i (by omega)]
theorem csR_sum {p pn : Nat} (hp : p ≤ 10) : ∀ i, jamA (fun s => csR p pn s i) (2 ^ i) = 10 ^ i
  | 0 => rfl
  | i + 1 => by
    have hA := csR_sum (pn := pn) hp i
    have h2 : 2 ^ (i + 1) = 2 ^ i + 2 ^ i := by rw [Nat.pow_succ]; omega
    rw [h2, jamA_add]
    have e1 : jamA (fun s => csR p pn s (i + 1)) (2 ^ i) = jamA (fun s => csR p pn s i) (2 ^ i) * (10 - p) := by
      rw [← jamA_mul]
      refine jamA_cong _ (fun s hs => ?_)
      show csR p pn s (i + 1) = csR p pn s i * (10 - p)
      rw [csR, if_neg (by rw [Nat.div_eq_of_lt hs]; decide)]
    have e2 : jamA (fun s => csR p pn (2 ^ i + s) (i + 1)) (2 ^ i) = jamA (fun s => csR p pn s i) (2 ^ i) * p := by
      rw [← jamA_mul]
      refine jamA_cong _ (fun s hs => ?_)
      show csR p pn (2 ^ i + s) (i + 1) = csR p pn s i * p
      rw [csR, if_pos (by rw [Nat.add_div_left _ (Nat.two_pow_pos i), Nat.div_eq_of_lt hs])]
      congr 1
      refine csR_low i (fun j hj => ?_)
      rw [show (2 : Nat) ^ i = 2 ^ j * (2 * 2 ^ (i - j - 1)) by
        rw [← Nat.pow_succ', ← Nat.pow_add]; congr 1; omega, Nat.mul_add_div (Nat.two_pow_pos j)]
      omega
    rw [e1, e2, hA, ← Nat.mul_add, show 10 - p + p = 10 by omega, Nat.pow_succ]
theorem csR_bc : ∀ p, p < 11 → ∀ pn, pn < 9 → ∀ s, s < 2 ^ pn → csR p pn s pn = p ^ bcN s * (10 - p) ^ (pn - bcN s) := by decide +kernel
section KM
variable {d : Nat} {b : Nat × Nat} {Y : xY} {G : xG} {N : xM} {S : xT} {f : Nat → Int32} {Q : Option xAV → xY → xG → xM → Prop} {c : Nat}
theorem kX7_jam (hM : xMo Y G) {mb pn : Nat} (hr : rSt S mb pn) (hj : S 0 11 = 0) {a b2 x y : Int32} {v : Int64} {pv : Nat → Bool} (hv : ∀ m n, a = nI m → m < mb → b2 = nI n → n ≤ 30 → ∀ k, k < 2 ^ pn → ∀ o so f, oEq o (upd (S 0) 11 (nI k)) → so = S 11 → ag f (S 13) → (rGo o so mb n f (49 + m) = nI 9 ↔ pv k = true)) (hv2 : ∀ p, x = nI p → p ≤ 10 → aJam (jamN (fun s => csR p pn s pn) pv (2 ^ pn)) (jamA (fun s => csR p pn s pn) (2 ^ pn)) y = v) (hQ : ∀ S2, rKeep S S2 → Q (some (xJ (if rIn a (nI 0) (nI mb - nI 1) ∧ rIn b2 (nI 0) (nI 30) ∧ rIn x (nI 0) (nI 10) ∧ rIn y (nI 0) (nI 1) then v else -1000001))) Y G (va_up N 40 S2)) : V RX7 false cX7_jam 13 (some .long) none (d + 4) b 0 [some (xR 40 0), some (xI a), some (xI b2), some (xI x), some (xI y), none, none, none, none, none, none, none, none] [] Y G (va_up N 40 S) Q := by
  refine V_ald0 dX7_jam_0 ?_
  refine V_ild1 dX7_jam_1 ?_
  refine V_iv1 dX7_jam_2 wlX7_192 mdX7_isMarble miX7_isMarble rfl (hM.1 0 (0, 7) rfl) rfl rfl (kX7_isMarble hM ⟨rfl, ?_⟩)
  rw [hr.1]
  refine V_ifeqB (tgt := 38) dX7_jam_5 (by decide) (fun c5 => ?_) (fun c5 => ?_)
  · skip
    refine V_ldc2 dX7_jam_38 wjX7_241 ?_
    refine V_lreturn dX7_jam_41 rfl ?_
    have hq := hQ S (rKeep.rf S)
    rw [if_neg (fun h => c5 h.1)] at hq
    exact hq
  · skip
    refine V_ild2 dX7_jam_8 ?_
    refine V_iconst (v := nI 0) dX7_jam_9 (by decide) ?_
    refine V_bipush (v := nI 30) dX7_jam_10 (by decide) ?_
    refine V_is3 dX7_jam_12 wlX7_70 mdX7_in msX7_in rfl rfl (kX7_in ⟨rfl, ?_⟩)
    refine V_ifeqB (tgt := 38) dX7_jam_15 (by decide) (fun c15 => ?_) (fun c15 => ?_)
    · skip
      refine V_ldc2 dX7_jam_38 wjX7_241 ?_
      refine V_lreturn dX7_jam_41 rfl ?_
      have hq := hQ S (rKeep.rf S)
      rw [if_neg (fun h => c15 h.2.1)] at hq
      exact hq
    · skip
      refine V_ild3 dX7_jam_18 ?_
      refine V_iconst (v := nI 0) dX7_jam_19 (by decide) ?_
      refine V_bipush (v := nI 10) dX7_jam_20 (by decide) ?_
      refine V_is3 dX7_jam_22 wlX7_70 mdX7_in msX7_in rfl rfl (kX7_in ⟨rfl, ?_⟩)
      refine V_ifeqB (tgt := 38) dX7_jam_25 (by decide) (fun c25 => ?_) (fun c25 => ?_)
      · skip
        refine V_ldc2 dX7_jam_38 wjX7_241 ?_
        refine V_lreturn dX7_jam_41 rfl ?_
        have hq := hQ S (rKeep.rf S)
        rw [if_neg (fun h => c25 h.2.2.1)] at hq
        exact hq
      · skip
        refine V_ild4 dX7_jam_28 ?_
        refine V_iconst (v := nI 0) dX7_jam_30 (by decide) ?_
        refine V_iconst (v := nI 1) dX7_jam_31 (by decide) ?_
        refine V_is3 dX7_jam_32 wlX7_70 mdX7_in msX7_in rfl rfl (kX7_in ⟨rfl, ?_⟩)
        refine V_ifneB (tgt := 42) dX7_jam_35 (by decide) (fun c35 => ?_) (fun c35 => ?_)
        · skip
          obtain ⟨m, hm, rfl⟩ := rIn_m c5 (by have := hr.b6; omega)
          obtain ⟨n, hn0, hn1, rfl⟩ := rIn_k c15 (by decide) (by decide)
          obtain ⟨p, hp0, hp1, rfl⟩ := rIn_k c25 (by decide) (by decide)
          have hk := hr.okm hm
          have hmb := hk.mb
          have hpn := hk.pn
          have hK2 : 2 ^ pn ≤ 256 := Nat.pow_le_pow_right (n := 2) (by decide) hpn
          have hsum := csR_sum (pn := pn) hp1 pn
          have h10 : 10 ^ pn ≤ 10 ^ 8 := Nat.pow_le_pow_right (by decide) hpn
          have h11 : 0 < 10 ^ pn := Nat.pow_pos (by decide)
          have hle := jamN_le (fun s => csR p pn s pn) pv (2 ^ pn)
          obtain ⟨K, hK⟩ : ∃ K, K = 2 ^ pn := ⟨_, rfl⟩
          rw [← hK] at hK2 hsum hle
          have hv := hv m n rfl hm rfl hn1
          rw [← hK] at hv
          refine V_lconst (v := lN 0) dX7_jam_42 (rfl) ?_
          refine V_lst5 dX7_jam_43 rfl ?_
          refine V_lconst (v := lN 0) dX7_jam_45 (rfl) ?_
          refine V_lst7 dX7_jam_46 rfl ?_
          refine V_iconst (v := nI 0) dX7_jam_48 (by decide) ?_
          refine V_ist9 dX7_jam_49 rfl ?_
          refine xDown (P := fun i => ∀ S2 l10 l12, (∃ x, S2 0 = upd (S 0) 11 x) → (∀ c, c ≠ 0 → c ≠ 19 → S2 c = S c) → V RX7 false cX7_jam 13 (some .long) none (d + 4) b 51 [some (xR 40 0), some (xI (nI m)), some (xI (nI n)), some (xI (nI p)), some (xI y), some (xJ (lN (jamN (fun s => csR p pn s pn) pv i))), none, some (xJ (lN (jamA (fun s => csR p pn s pn) i))), none, some (xI (nI i)), l10, none, l12] [] Y G (va_up N 40 S2) Q) K ?_ 0 (Nat.zero_le _) S none none ⟨_, (upd_me _ _).symm⟩ (fun _ _ _ => rfl) 
          intro i hii hni S2 l10 l12 e0 ec
          obtain ⟨x, e0⟩ := e0
          refine V_ild9 dX7_jam_51 ?_
          refine V_iconst (v := nI 1) dX7_jam_53 (by decide) ?_
          refine V_ald0 dX7_jam_54 ?_
          refine V_getIr dX7_jam_55 flX7_77 (hM.1 0 (0, 7) rfl) ?_
          refine V_eqI (by rw [e0]; exact hk.e9 : _ = nI pn) ?_
          refine V_ishl dX7_jam_58 ?_
          rw [nI_1shl (by omega), ← hK]
          refine V_icmpgeN (tgt := 162) dX7_jam_59 (by decide) (by omega) (by omega) (fun c59 => ?_) (fun c59 => ?_)
          · skip
            rw [show i = K by omega]
            refine V_ald0 dX7_jam_162 ?_
            refine V_iconst (v := 0) dX7_jam_163 (by decide) ?_
            refine V_putIr dX7_jam_164 fwX7_162 (hM.1 0 (0, 7) rfl) ?_
            refine V_lld5 dX7_jam_167 ?_
            refine V_lld7 dX7_jam_169 ?_
            refine V_is2 dX7_jam_171 wlX7_243 mdX7_common msX7_common rfl rfl (kX7_common (a := jamN (fun s => csR p pn s pn) pv K) (c := jamA (fun s => csR p pn s pn) K) (by omega) (by omega) rfl ⟨rfl, ?_⟩)
            refine V_lst9 dX7_jam_174 rfl ?_
            have hg : 0 < Nat.gcd (jamN (fun s => csR p pn s pn) pv K) (jamA (fun s => csR p pn s pn) K) := Nat.gcd_pos_of_pos_right _ (by omega)
            have hg2 : Nat.gcd (jamN (fun s => csR p pn s pn) pv K) (jamA (fun s => csR p pn s pn) K) ≤ jamA (fun s => csR p pn s pn) K := Nat.gcd_le_right _ (by omega)
            have hq := hQ (va_up S2 0 (upd (S2 0) 11 0)) ⟨fun c a1 a2 a3 a4 a5 a6 a7 a8 => by rw [va_up_no _ _ a1]; exact ec c a1 a3, fun k hk => by rw [va_up_eq, e0, upd_upd2, show (0 : Int32) = S 0 11 from hj.symm, upd_me]⟩
            rw [if_pos ⟨c5, c15, c25, c35⟩, ← hv2 p rfl hp1, ← hK] at hq
            unfold aJam at hq
            refine V_ild4 dX7_jam_176 ?_
            refine V_ifne (tgt := 189) dX7_jam_178 (by decide) (fun c178 => ?_) (fun c178 => ?_)
            · skip
              refine V_lld7 dX7_jam_189 ?_
              refine V_lld9 dX7_jam_191 ?_
              refine V_ldiv dX7_jam_193 (fun e => absurd ((pk_lEQ (by omega) (by decide)).mp (show lN (Nat.gcd _ _) = lN 0 from e)) (Nat.pos_iff_ne_zero.mp hg)) ?_
              rw [pk_lDiv (by omega) hg (by omega)]
              refine V_lreturn dX7_jam_194 rfl ?_
              rw [if_neg c178] at hq
              exact hq
            · skip
              refine V_lld5 dX7_jam_181 ?_
              refine V_lld9 dX7_jam_183 ?_
              refine V_ldiv dX7_jam_185 (fun e => absurd ((pk_lEQ (by omega) (by decide)).mp (show lN (Nat.gcd _ _) = lN 0 from e)) (Nat.pos_iff_ne_zero.mp hg)) ?_
              rw [pk_lDiv (by omega) hg (by omega)]
              refine V_goto (tgt := 194) dX7_jam_186 (by decide) ?_
              refine V_lreturn dX7_jam_194 rfl ?_
              rw [if_pos c178] at hq
              exact hq
          · skip
            refine V_lconst (v := lN 1) dX7_jam_62 (rfl) ?_
            refine V_lst10 dX7_jam_63 rfl ?_
            refine V_iconst (v := nI 0) dX7_jam_65 (by decide) ?_
            refine V_ist12 dX7_jam_66 rfl ?_
            refine xDown (P := fun j => V RX7 false cX7_jam 13 (some .long) none (d + 4) b 68 [some (xR 40 0), some (xI (nI m)), some (xI (nI n)), some (xI (nI p)), some (xI y), some (xJ (lN (jamN (fun s => csR p pn s pn) pv i))), none, some (xJ (lN (jamA (fun s => csR p pn s pn) i))), none, some (xI (nI i)), some (xJ (lN (csR p pn i j))), none, some (xI (nI j))] [] Y G (va_up N 40 S2) Q) pn ?_ 0 (Nat.zero_le _)
            intro j hij hnj
            refine V_ild12 dX7_jam_68 ?_
            refine V_ald0 dX7_jam_70 ?_
            refine V_getIr dX7_jam_71 flX7_77 (hM.1 0 (0, 7) rfl) ?_
            refine V_eqI (by rw [e0]; exact hk.e9 : _ = nI pn) ?_
            refine V_icmpgeN (tgt := 109) dX7_jam_74 (by decide) (by omega) (by omega) (fun c74 => ?_) (fun c74 => ?_)
            · skip
              rw [show j = pn by omega]
              refine V_ald0 dX7_jam_109 ?_
              refine V_ild9 dX7_jam_110 ?_
              refine V_putIr dX7_jam_112 fwX7_162 (hM.1 0 (0, 7) rfl) ?_
              have hk2 : rOK (va_up S2 0 (upd (S2 0) 11 (nI i)) 0) (va_up S2 0 (upd (S2 0) 11 (nI i)) 11) mb pn (va_up S2 0 (upd (S2 0) 11 (nI i)) 13) := by
                rw [va_up_eq, va_up_no _ _ (by decide), va_up_no _ _ (by decide), e0, upd_upd2, ec 11 (by decide) (by decide), ec 13 (by decide) (by decide)]
                exact hk.jam (nI i)
              refine V_ald0 dX7_jam_115 ?_
              refine V_iv0 dX7_jam_116 wlX7_202 mdX7_asItIs miX7_asItIs rfl (hM.1 0 (0, 7) rfl) rfl rfl (kX7_asItIs hM (fun f hf => ⟨rfl, ?_⟩))
              refine V_ald0 dX7_jam_119 ?_
              refine V_ild2 dX7_jam_120 ?_
              refine V_iv1 dX7_jam_121 wlX7_205 mdX7_goes miX7_goes rfl (hM.1 0 (0, 7) rfl) rfl rfl (kX7_goes hM (hk2.ag hf) (by omega) ⟨rfl, ?_⟩)
              refine V_lld5 dX7_jam_124 ?_
              refine V_ald0 dX7_jam_126 ?_
              refine V_getR dX7_jam_127 flX7_41 (hM.1 0 (0, 7) rfl) (show G 40 0 18 = some (40, 19) from hM.2 18 (1, 67) rfl) ?_
              refine V_bipush (v := nI 49) dX7_jam_130 (by decide) ?_
              refine V_ild1 dX7_jam_132 ?_
              refine V_iaddN dX7_jam_133 ?_
              refine V_iar dX7_jam_134 (hM.1 19 (1, 67) rfl) (by omega) (by decide) ?_
              refine V_bipush (v := nI 9) dX7_jam_135 (by decide) ?_
              refine V_icmpne (tgt := 145) dX7_jam_137 (by decide) (fun c137 => ?_) (fun c137 => ?_)
              · replace c137 : ¬ pv i = true := fun e => c137 ((hv i (by omega) _ _ f (by rw [va_up_eq, e0, upd_upd2]; exact ⟨rfl, rfl, rfl, rfl⟩) (by rw [va_up_no _ _ (by decide), ec 11 (by decide) (by decide)]) (fun j hj => (hf j hj).trans (by rw [va_up_no _ _ (by decide), ec 13 (by decide) (by decide)]))).mpr e)
                refine V_lconst (v := lN 0) dX7_jam_145 (rfl) ?_
                refine V_ladd dX7_jam_146 ?_
                refine V_lst5 dX7_jam_147 rfl ?_
                refine V_lld7 dX7_jam_149 ?_
                refine V_lld10 dX7_jam_151 ?_
                refine V_ladd dX7_jam_153 ?_
                refine V_lst7 dX7_jam_154 rfl ?_
                refine V_incN9 dX7_jam_156 rfl ?_
                refine V_goto (tgt := 51) dX7_jam_159 (by decide) ?_
                have hq := fun S4 => hni (by omega) S4
                rw [jamN, jamA, if_neg c137, ← lN_add, ← lN_add] at hq
                exact hq _ _ _ ⟨_, by rw [va_up_no _ _ (by decide), va_up_eq, e0, upd_upd2]⟩ (fun c h1 h2 => by rw [va_up_no _ _ h2, va_up_no _ _ h1]; exact ec c h1 h2)
              · replace c137 : pv i = true := (hv i (by omega) _ _ f (by rw [va_up_eq, e0, upd_upd2]; exact ⟨rfl, rfl, rfl, rfl⟩) (by rw [va_up_no _ _ (by decide), ec 11 (by decide) (by decide)]) (fun j hj => (hf j hj).trans (by rw [va_up_no _ _ (by decide), ec 13 (by decide) (by decide)]))).mp (Classical.byContradiction fun q => absurd c137 q)
                refine V_lld10 dX7_jam_140 ?_
                refine V_goto (tgt := 146) dX7_jam_142 (by decide) ?_
                refine V_ladd dX7_jam_146 ?_
                refine V_lst5 dX7_jam_147 rfl ?_
                refine V_lld7 dX7_jam_149 ?_
                refine V_lld10 dX7_jam_151 ?_
                refine V_ladd dX7_jam_153 ?_
                refine V_lst7 dX7_jam_154 rfl ?_
                refine V_incN9 dX7_jam_156 rfl ?_
                refine V_goto (tgt := 51) dX7_jam_159 (by decide) ?_
                have hq := fun S4 => hni (by omega) S4
                rw [jamN, jamA, if_pos c137, ← lN_add, ← lN_add] at hq
                exact hq _ _ _ ⟨_, by rw [va_up_no _ _ (by decide), va_up_eq, e0, upd_upd2]⟩ (fun c h1 h2 => by rw [va_up_no _ _ h2, va_up_no _ _ h1]; exact ec c h1 h2)
            · skip
              refine V_lld10 dX7_jam_77 ?_
              refine V_ild9 dX7_jam_79 ?_
              refine V_ild12 dX7_jam_81 ?_
              refine V_ishr dX7_jam_83 ?_
              refine V_iconst (v := nI 1) dX7_jam_84 (by decide) ?_
              refine V_iand dX7_jam_85 ?_
              rw [nI_shr (by omega) (by omega), pk_andN (by have : i / 2 ^ j ≤ i := Nat.div_le_self _ _; omega) 1 (by decide), Nat.pow_one]
              refine V_iconst (v := nI 1) dX7_jam_86 (by decide) ?_
              refine V_icmpneN (tgt := 95) dX7_jam_87 (by decide) (by omega) (by omega) (fun c87 => ?_) (fun c87 => ?_)
              · skip
                refine V_bipush (v := nI 10) dX7_jam_95 (by decide) ?_
                refine V_ild3 dX7_jam_97 ?_
                refine V_isubN (by omega) dX7_jam_98 ?_
                refine V_i2l dX7_jam_99 ?_
                rw [nI_l (by omega)]
                refine V_lmul dX7_jam_100 ?_
                refine V_lst10 dX7_jam_101 rfl ?_
                refine V_incN12 dX7_jam_103 rfl ?_
                refine V_goto (tgt := 68) dX7_jam_106 (by decide) ?_
                have hnj := hnj (by omega)
                rw [csR, if_neg c87, ← lN_mul] at hnj
                exact hnj
              · skip
                refine V_ild3 dX7_jam_90 ?_
                refine V_i2l dX7_jam_91 ?_
                refine V_goto (tgt := 100) dX7_jam_92 (by decide) ?_
                rw [nI_l (by omega)]
                refine V_lmul dX7_jam_100 ?_
                refine V_lst10 dX7_jam_101 rfl ?_
                refine V_incN12 dX7_jam_103 rfl ?_
                refine V_goto (tgt := 68) dX7_jam_106 (by decide) ?_
                have hnj := hnj (by omega)
                rw [csR, if_pos c87, ← lN_mul] at hnj
                exact hnj
        · skip
          refine V_ldc2 dX7_jam_38 wjX7_241 ?_
          refine V_lreturn dX7_jam_41 rfl ?_
          have hq := hQ S (rKeep.rf S)
          rw [if_neg (fun h => c35 h.2.2.2)] at hq
          exact hq
end KM
