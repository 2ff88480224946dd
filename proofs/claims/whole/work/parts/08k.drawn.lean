theorem throw_sim {mb pn : Nat} {T : xT} {o so f : Nat → Int32} (h : Sim mb pn T o so f) (hm : mb ≤ 6) (hp : pn ≤ 8) {m : Nat} (hmm : m < mb) (w : Int32) : Sim mb pn (tThrow T m w) o so (rComes f m w) := by
  unfold tThrow rComes
  have h1 := h.put hm hp (c := 8) (Or.inl ⟨rfl, hmm⟩) (nI 10)
  have h2 := h1.put hm hp (c := 6) (Or.inl ⟨rfl, hmm⟩) w
  rw [h2.2]
  exact h2.put hm hp (c := 7) (Or.inl ⟨rfl, hmm⟩) _
theorem bit2p : ∀ p, p < 8 → ∀ i, i < 8 → (nI (2 ^ p) >>> (nI i &&& 31)) &&& nI 1 = if i = p then nI 1 else 0 := by decide +kernel
theorem swAll_one (T : xT) {p : Nat} (hp : p < 8) : ∀ n, n ≤ 8 → tSwAll T (nI (2 ^ p)) n = if p < n then tSwing T p else T
  | 0, _ => rfl
  | n + 1, hn => by
    rw [tSwAll, bit2p p hp n (by omega), swAll_one T hp n (by omega)]
    by_cases e : n = p
    · rw [if_pos e, if_neg (by decide), if_neg (by omega), if_pos (by omega), e]
    · rw [if_neg e, if_pos rfl]
      by_cases h : p < n
      · rw [if_pos h, if_pos (by omega)]
      · rw [if_neg h, if_neg (by omega)]
def rDist (f : Nat → Int32) (mb pn x : Nat) : Nat → Int32 := if rInTray f (x % mb) then rComes f (x % mb) (nI (x % 9 + 1)) else if x % 3 = 0 then rTipN f (nI (2 ^ (x % pn))) pn else f
theorem inTray_sim {mb pn : Nat} {T : xT} {o so f : Nat → Int32} (h : Sim0 mb pn T o so f) {m : Nat} (hm : m < mb) : tInTray T m ↔ rInTray f m := by
  have e : T 8 m = f (49 + m) := h.m (c := 8) rfl hm
  unfold tInTray rInTray
  rw [e]
theorem dist_sim {mb pn : Nat} {T : xT} {o so f : Nat → Int32} (h : Sim mb pn T o so f) (hk : tOK mb pn T) (hm : 1 ≤ mb) (x : Nat) : Sim mb pn (tDist T mb pn x) o so (rDist f mb pn x) := by
  have hx := Nat.mod_lt x (show 0 < mb by omega)
  have hp1 := hk.2.1
  have hp8 := hk.pn
  have hy := Nat.mod_lt x (show 0 < pn by omega)
  have ht := inTray_sim h.1 hx
  unfold tDist rDist
  by_cases c1 : tInTray T (x % mb)
  · rw [if_pos c1, if_pos (ht.mp c1)]
    exact throw_sim h hk.mb hk.pn hx _
  · rw [if_neg c1, if_neg (fun q => c1 (ht.mpr q))]
    by_cases c2 : x % 3 = 0
    · rw [if_pos c2, if_pos c2]
      have := tips_sim h hk (nI (2 ^ (x % pn))) pn (Nat.le_refl _)
      rw [swAll_one T (by omega) pn hp8, if_pos hy] at this
      exact this
    · rw [if_neg c2, if_neg c2]; exact h
theorem rOK.dist {o so : Nat → Int32} {mb pn : Nat} {f : Nat → Int32} (h : rOK o so mb pn f) (hm : 1 ≤ mb) (x : Nat) : rOK o so mb pn (rDist f mb pn x) := h.elim fun _ hT => ⟨_, hT.1.dist hm x, dist_sim hT.2 hT.1 hm x⟩
def rDraw (o so : Nat → Int32) (mb pn : Nat) (tr : Int32) : Nat → Nat → (Nat → Int32) → Int32 → Int32
  | 0, _, _, a => a
  | k + 1, x, f, a => rDraw o so mb pn tr k (x * 16807 % 2147483647) (rTick o so mb (rDist f mb pn (x * 16807 % 2147483647))) (a + rBits (rThose (rTick o so mb (rDist f mb pn (x * 16807 % 2147483647))) tr tr mb &&& (rThose (rDist f mb pn (x * 16807 % 2147483647)) tr tr mb ^^^ (-1))) 8)
section KM
variable {d : Nat} {b : Nat × Nat} {Y : xY} {G : xG} {N : xM} {S : xT} {f : Nat → Int32} {Q : Option xAV → xY → xG → xM → Prop} {c : Nat}
theorem xDrawR (hM : xMo Y G) {mb pn n sd : Nat} (hm : 1 ≤ mb) (hn : n ≤ 60) (hsd : sd < 2147483647) {y : Int32} (hy : y = 0) (hkf : rOK (S 0) (S 11) mb pn f) (hQ : ∀ f2, Q (some (xI (rDraw (S 0) (S 11) mb pn (nI 9) n sd f (nI 0)))) Y G (va_up N 40 (va_up S 19 f2))) : V RX7 false cX7_drawn 10 (some .int) none (d + 4) b 56 [some (xR 40 0), some (xI (nI n)), some (xI (nI sd)), some (xI y), some (xJ (lN sd)), none, some (xI (nI 0)), some (xI (nI 0)), none, none] [] Y G (va_up N 40 (va_up S 19 f)) Q := by
  have hmb := hkf.mb
  have hpn := hkf.pn
  have hp1 := hkf.p1
  have hk0 := hkf
  refine xDown (P := fun i => ∀ f x a l8 l9, x < 2147483647 → rOK (S 0) (S 11) mb pn f → (∀ f2, Q (some (xI (rDraw (S 0) (S 11) mb pn (nI 9) (n - i) x f a))) Y G (va_up N 40 (va_up S 19 f2))) → V RX7 false cX7_drawn 10 (some .int) none (d + 4) b 56 [some (xR 40 0), some (xI (nI n)), some (xI (nI sd)), some (xI y), some (xJ (lN x)), none, some (xI a), some (xI (nI i)), l8, l9] [] Y G (va_up N 40 (va_up S 19 f)) Q) n ?_ 0 (Nat.zero_le _) f _ _ none none hsd hkf hQ 
  intro i hii hni f x a l8 l9 hx hkf hq
  refine V_ild7 dX7_drawn_56 ?_
  refine V_ild1 dX7_drawn_58 ?_
  refine V_icmpgeN (tgt := 201) dX7_drawn_59 (by decide) (by omega) (by omega) (fun c59 => ?_) (fun c59 => ?_)
  · skip
    refine V_ild6 dX7_drawn_201 ?_
    refine V_ireturn dX7_drawn_203 ⟨_, rfl, vp_nar_int _⟩ ?_
    rw [show n - i = 0 by omega, rDraw] at hq
    exact hq _
  · skip
    refine V_lld4 dX7_drawn_62 ?_
    refine V_ldc2 dX7_drawn_64 wjX7_248 ?_
    refine V_lmul dX7_drawn_67 ?_
    rw [show (16807 : Int64) = lN 16807 by decide, lN_mul]
    refine V_ldc2 dX7_drawn_68 wjX7_250 ?_
    rw [show (2147483647 : Int64) = lN 2147483647 by decide]
    refine V_lrem dX7_drawn_71 (by decide) ?_
    rw [pk_lRem (by omega) (by decide) (by decide)]
    obtain ⟨x2, hx2⟩ : ∃ x2, x2 = x * 16807 % 2147483647 := ⟨_, rfl⟩
    have hx3 : x2 < 2147483647 := by omega
    have hxm := Nat.mod_lt x2 (show 0 < mb by omega)
    have hxp := Nat.mod_lt x2 (show 0 < pn by omega)
    have hkd := hkf.dist hm x2
    rw [← hx2]
    refine V_lst4 dX7_drawn_72 rfl ?_
    refine V_lld4 dX7_drawn_74 ?_
    refine V_ald0 dX7_drawn_76 ?_
    refine V_getIs dX7_drawn_77 flX7_74 (hM.1 0 (0, 7) rfl) (by decide) ?_
    refine V_eqI hk0.e8 ?_
    refine V_i2l dX7_drawn_80 ?_
    rw [nI_l (by omega)]
    refine V_lrem dX7_drawn_81 (fun e => absurd ((pk_lEQ (by omega) (by decide)).mp (show lN mb = lN 0 from e)) (by omega)) ?_
    rw [pk_lRem (by omega) (by omega) (by omega)]
    refine V_l2i dX7_drawn_82 ?_
    rw [lN_i]
    refine V_ist8 dX7_drawn_83 rfl ?_
    refine V_ald0 dX7_drawn_85 ?_
    refine V_ald0 dX7_drawn_86 ?_
    refine V_getR dX7_drawn_87 flX7_41 (hM.1 0 (0, 7) rfl) (show G 40 0 18 = some (40, 19) from hM.2 18 (1, 67) rfl) ?_
    refine V_ild8 dX7_drawn_90 ?_
    refine V_iv2 dX7_drawn_92 wlX7_195 mdX7_isInTray miX7_isInTray rfl (hM.1 0 (0, 7) rfl) rfl rfl (kX7_isInTray (hM.1 19 (1, 67) rfl) (by omega) ⟨rfl, ?_⟩)
    refine V_ifeqB (tgt := 119) dX7_drawn_95 (by decide) (fun c95 => ?_) (fun c95 => ?_)
    · skip
      refine V_lld4 dX7_drawn_119 ?_
      refine V_ldc2 dX7_drawn_121 wjX7_254 ?_
      rw [show (3 : Int64) = lN 3 by decide]
      refine V_lrem dX7_drawn_124 (by decide) ?_
      rw [pk_lRem (by omega) (by decide) (by decide)]
      refine V_lconst (v := lN 0) dX7_drawn_125 (rfl) ?_
      refine V_lcmp dX7_drawn_126 ?_
      refine V_ifne (tgt := 145) dX7_drawn_127 (by decide) (fun c127 => ?_) (fun c127 => ?_)
      · replace c127 : ¬ x2 % 3 = 0 := fun e => c127 ((lg_cmp_eq _ _).mpr (by rw [e]))
        refine V_eqN (N' := va_up N 40 (va_up S 19 (rDist f mb pn x2))) (by rw [rDist, if_neg c95, if_neg c127]) ?_
        refine V_ild3 dX7_drawn_145 ?_
        refine V_ifne (tgt := 156) dX7_drawn_146 (by decide) (fun c146 => ?_) (fun c146 => ?_)
        · exact absurd hy c146
        · skip
          refine V_ald0 dX7_drawn_149 ?_
          refine V_iv0 dX7_drawn_150 wlX7_211 mdX7_rightOf miX7_rightOf rfl (hM.1 0 (0, 7) rfl) rfl rfl (kX7_rightOf hM hkd ⟨rfl, ?_⟩)
          refine V_goto (tgt := 160) dX7_drawn_153 (by decide) ?_
          refine V_ist9 dX7_drawn_160 rfl ?_
          refine V_ald0 dX7_drawn_162 ?_
          refine V_iconst (v := nI 1) dX7_drawn_163 (by decide) ?_
          refine V_iv1 dX7_drawn_164 wlX7_205 mdX7_goes miX7_goes rfl (hM.1 0 (0, 7) rfl) rfl rfl (kX7_goes (n := 1) hM hkd (by decide) ⟨rfl, ?_⟩)
          refine V_ild6 dX7_drawn_167 ?_
          refine V_ild3 dX7_drawn_169 ?_
          refine V_ifne (tgt := 180) dX7_drawn_170 (by decide) (fun c170 => ?_) (fun c170 => ?_)
          · exact absurd hy c170
          · skip
            refine V_ald0 dX7_drawn_173 ?_
            refine V_iv0 dX7_drawn_174 wlX7_211 mdX7_rightOf miX7_rightOf rfl (hM.1 0 (0, 7) rfl) rfl rfl (kX7_rightOf hM (hkd.go 1) ⟨rfl, ?_⟩)
            refine V_goto (tgt := 184) dX7_drawn_177 (by decide) ?_
            refine V_ild9 dX7_drawn_184 ?_
            refine V_iconst (v := (-1)) dX7_drawn_186 (by decide) ?_
            refine V_ixor dX7_drawn_187 ?_
            refine V_iand dX7_drawn_188 ?_
            refine V_is1 dX7_drawn_189 wlX7_217 mdX7_bits msX7_bits rfl rfl (kX7_bits ⟨rfl, ?_⟩)
            refine V_iadd dX7_drawn_192 ?_
            refine V_ist6 dX7_drawn_193 rfl ?_
            refine V_incN7 dX7_drawn_195 rfl ?_
            refine V_goto (tgt := 56) dX7_drawn_198 (by decide) ?_
            rw [show n - i = n - (i + 1) + 1 by omega, rDraw, ← hx2] at hq
            exact hni (by omega) _ _ _ _ _ (by omega) hkd.tick hq
      · replace c127 : x2 % 3 = 0 := (pk_lEQ (by omega) (by decide)).mp ((lg_cmp_eq _ _).mp (Classical.byContradiction fun q => absurd c127 q))
        refine V_ald0 dX7_drawn_130 ?_
        refine V_iconst (v := nI 1) dX7_drawn_131 (by decide) ?_
        refine V_lld4 dX7_drawn_132 ?_
        refine V_ald0 dX7_drawn_134 ?_
        refine V_getIs dX7_drawn_135 flX7_77 (hM.1 0 (0, 7) rfl) (by decide) ?_
        refine V_eqI hk0.e9 ?_
        refine V_i2l dX7_drawn_138 ?_
        rw [nI_l (by omega)]
        refine V_lrem dX7_drawn_139 (fun e => absurd ((pk_lEQ (by omega) (by decide)).mp (show lN pn = lN 0 from e)) (by omega)) ?_
        rw [pk_lRem (by omega) (by omega) (by omega)]
        refine V_l2i dX7_drawn_140 ?_
        rw [lN_i]
        refine V_ishl dX7_drawn_141 ?_
        rw [nI_1shl (by omega)]
        refine V_iv1 dX7_drawn_142 wlX7_214 mdX7_tipsNow miX7_tipsNow rfl (hM.1 0 (0, 7) rfl) rfl rfl (kX7_tipsNow hM hk0.e9 hk0.pn ⟨rfl, ?_⟩)
        refine V_eqN (N' := va_up N 40 (va_up S 19 (rDist f mb pn x2))) (by rw [rDist, if_neg c95, if_pos c127]) ?_
        refine V_ild3 dX7_drawn_145 ?_
        refine V_ifne (tgt := 156) dX7_drawn_146 (by decide) (fun c146 => ?_) (fun c146 => ?_)
        · exact absurd hy c146
        · skip
          refine V_ald0 dX7_drawn_149 ?_
          refine V_iv0 dX7_drawn_150 wlX7_211 mdX7_rightOf miX7_rightOf rfl (hM.1 0 (0, 7) rfl) rfl rfl (kX7_rightOf hM hkd ⟨rfl, ?_⟩)
          refine V_goto (tgt := 160) dX7_drawn_153 (by decide) ?_
          refine V_ist9 dX7_drawn_160 rfl ?_
          refine V_ald0 dX7_drawn_162 ?_
          refine V_iconst (v := nI 1) dX7_drawn_163 (by decide) ?_
          refine V_iv1 dX7_drawn_164 wlX7_205 mdX7_goes miX7_goes rfl (hM.1 0 (0, 7) rfl) rfl rfl (kX7_goes (n := 1) hM hkd (by decide) ⟨rfl, ?_⟩)
          refine V_ild6 dX7_drawn_167 ?_
          refine V_ild3 dX7_drawn_169 ?_
          refine V_ifne (tgt := 180) dX7_drawn_170 (by decide) (fun c170 => ?_) (fun c170 => ?_)
          · exact absurd hy c170
          · skip
            refine V_ald0 dX7_drawn_173 ?_
            refine V_iv0 dX7_drawn_174 wlX7_211 mdX7_rightOf miX7_rightOf rfl (hM.1 0 (0, 7) rfl) rfl rfl (kX7_rightOf hM (hkd.go 1) ⟨rfl, ?_⟩)
            refine V_goto (tgt := 184) dX7_drawn_177 (by decide) ?_
            refine V_ild9 dX7_drawn_184 ?_
            refine V_iconst (v := (-1)) dX7_drawn_186 (by decide) ?_
            refine V_ixor dX7_drawn_187 ?_
            refine V_iand dX7_drawn_188 ?_
            refine V_is1 dX7_drawn_189 wlX7_217 mdX7_bits msX7_bits rfl rfl (kX7_bits ⟨rfl, ?_⟩)
            refine V_iadd dX7_drawn_192 ?_
            refine V_ist6 dX7_drawn_193 rfl ?_
            refine V_incN7 dX7_drawn_195 rfl ?_
            refine V_goto (tgt := 56) dX7_drawn_198 (by decide) ?_
            rw [show n - i = n - (i + 1) + 1 by omega, rDraw, ← hx2] at hq
            exact hni (by omega) _ _ _ _ _ (by omega) hkd.tick hq
    · skip
      refine V_ald0 dX7_drawn_98 ?_
      refine V_getR dX7_drawn_99 flX7_41 (hM.1 0 (0, 7) rfl) (show G 40 0 18 = some (40, 19) from hM.2 18 (1, 67) rfl) ?_
      refine V_ild8 dX7_drawn_102 ?_
      refine V_lld4 dX7_drawn_104 ?_
      refine V_ldc2 dX7_drawn_106 wjX7_252 ?_
      rw [show (9 : Int64) = lN 9 by decide]
      refine V_lrem dX7_drawn_109 (by decide) ?_
      rw [pk_lRem (by omega) (by decide) (by decide)]
      refine V_l2i dX7_drawn_110 ?_
      rw [lN_i]
      refine V_iconst (v := nI 1) dX7_drawn_111 (by decide) ?_
      refine V_iaddN dX7_drawn_112 ?_
      refine V_is3 dX7_drawn_113 wlX7_199 mdX7_comes msX7_comes rfl rfl (kX7_comes (hM.1 19 (1, 67) rfl) (by omega) ⟨rfl, ?_⟩)
      refine V_goto (tgt := 145) dX7_drawn_116 (by decide) ?_
      refine V_eqN (N' := va_up N 40 (va_up S 19 (rDist f mb pn x2))) (by rw [rDist, if_pos c95]) ?_
      refine V_ild3 dX7_drawn_145 ?_
      refine V_ifne (tgt := 156) dX7_drawn_146 (by decide) (fun c146 => ?_) (fun c146 => ?_)
      · exact absurd hy c146
      · skip
        refine V_ald0 dX7_drawn_149 ?_
        refine V_iv0 dX7_drawn_150 wlX7_211 mdX7_rightOf miX7_rightOf rfl (hM.1 0 (0, 7) rfl) rfl rfl (kX7_rightOf hM hkd ⟨rfl, ?_⟩)
        refine V_goto (tgt := 160) dX7_drawn_153 (by decide) ?_
        refine V_ist9 dX7_drawn_160 rfl ?_
        refine V_ald0 dX7_drawn_162 ?_
        refine V_iconst (v := nI 1) dX7_drawn_163 (by decide) ?_
        refine V_iv1 dX7_drawn_164 wlX7_205 mdX7_goes miX7_goes rfl (hM.1 0 (0, 7) rfl) rfl rfl (kX7_goes (n := 1) hM hkd (by decide) ⟨rfl, ?_⟩)
        refine V_ild6 dX7_drawn_167 ?_
        refine V_ild3 dX7_drawn_169 ?_
        refine V_ifne (tgt := 180) dX7_drawn_170 (by decide) (fun c170 => ?_) (fun c170 => ?_)
        · exact absurd hy c170
        · skip
          refine V_ald0 dX7_drawn_173 ?_
          refine V_iv0 dX7_drawn_174 wlX7_211 mdX7_rightOf miX7_rightOf rfl (hM.1 0 (0, 7) rfl) rfl rfl (kX7_rightOf hM (hkd.go 1) ⟨rfl, ?_⟩)
          refine V_goto (tgt := 184) dX7_drawn_177 (by decide) ?_
          refine V_ild9 dX7_drawn_184 ?_
          refine V_iconst (v := (-1)) dX7_drawn_186 (by decide) ?_
          refine V_ixor dX7_drawn_187 ?_
          refine V_iand dX7_drawn_188 ?_
          refine V_is1 dX7_drawn_189 wlX7_217 mdX7_bits msX7_bits rfl rfl (kX7_bits ⟨rfl, ?_⟩)
          refine V_iadd dX7_drawn_192 ?_
          refine V_ist6 dX7_drawn_193 rfl ?_
          refine V_incN7 dX7_drawn_195 rfl ?_
          refine V_goto (tgt := 56) dX7_drawn_198 (by decide) ?_
          rw [show n - i = n - (i + 1) + 1 by omega, rDraw, ← hx2] at hq
          exact hni (by omega) _ _ _ _ _ (by omega) hkd.tick hq
theorem xDrawL (hM : xMo Y G) {mb pn n sd : Nat} (hm : 1 ≤ mb) (hn : n ≤ 60) (hsd : sd < 2147483647) {y : Int32} (hy : ¬ y = 0) (hkf : rOK (S 0) (S 11) mb pn f) (hQ : ∀ f2, Q (some (xI (rDraw (S 0) (S 11) mb pn (nI 8) n sd f (nI 0)))) Y G (va_up N 40 (va_up S 19 f2))) : V RX7 false cX7_drawn 10 (some .int) none (d + 4) b 56 [some (xR 40 0), some (xI (nI n)), some (xI (nI sd)), some (xI y), some (xJ (lN sd)), none, some (xI (nI 0)), some (xI (nI 0)), none, none] [] Y G (va_up N 40 (va_up S 19 f)) Q := by
  have hmb := hkf.mb
  have hpn := hkf.pn
  have hp1 := hkf.p1
  have hk0 := hkf
  refine xDown (P := fun i => ∀ f x a l8 l9, x < 2147483647 → rOK (S 0) (S 11) mb pn f → (∀ f2, Q (some (xI (rDraw (S 0) (S 11) mb pn (nI 8) (n - i) x f a))) Y G (va_up N 40 (va_up S 19 f2))) → V RX7 false cX7_drawn 10 (some .int) none (d + 4) b 56 [some (xR 40 0), some (xI (nI n)), some (xI (nI sd)), some (xI y), some (xJ (lN x)), none, some (xI a), some (xI (nI i)), l8, l9] [] Y G (va_up N 40 (va_up S 19 f)) Q) n ?_ 0 (Nat.zero_le _) f _ _ none none hsd hkf hQ 
  intro i hii hni f x a l8 l9 hx hkf hq
  refine V_ild7 dX7_drawn_56 ?_
  refine V_ild1 dX7_drawn_58 ?_
  refine V_icmpgeN (tgt := 201) dX7_drawn_59 (by decide) (by omega) (by omega) (fun c59 => ?_) (fun c59 => ?_)
  · skip
    refine V_ild6 dX7_drawn_201 ?_
    refine V_ireturn dX7_drawn_203 ⟨_, rfl, vp_nar_int _⟩ ?_
    rw [show n - i = 0 by omega, rDraw] at hq
    exact hq _
  · skip
    refine V_lld4 dX7_drawn_62 ?_
    refine V_ldc2 dX7_drawn_64 wjX7_248 ?_
    refine V_lmul dX7_drawn_67 ?_
    rw [show (16807 : Int64) = lN 16807 by decide, lN_mul]
    refine V_ldc2 dX7_drawn_68 wjX7_250 ?_
    rw [show (2147483647 : Int64) = lN 2147483647 by decide]
    refine V_lrem dX7_drawn_71 (by decide) ?_
    rw [pk_lRem (by omega) (by decide) (by decide)]
    obtain ⟨x2, hx2⟩ : ∃ x2, x2 = x * 16807 % 2147483647 := ⟨_, rfl⟩
    have hx3 : x2 < 2147483647 := by omega
    have hxm := Nat.mod_lt x2 (show 0 < mb by omega)
    have hxp := Nat.mod_lt x2 (show 0 < pn by omega)
    have hkd := hkf.dist hm x2
    rw [← hx2]
    refine V_lst4 dX7_drawn_72 rfl ?_
    refine V_lld4 dX7_drawn_74 ?_
    refine V_ald0 dX7_drawn_76 ?_
    refine V_getIs dX7_drawn_77 flX7_74 (hM.1 0 (0, 7) rfl) (by decide) ?_
    refine V_eqI hk0.e8 ?_
    refine V_i2l dX7_drawn_80 ?_
    rw [nI_l (by omega)]
    refine V_lrem dX7_drawn_81 (fun e => absurd ((pk_lEQ (by omega) (by decide)).mp (show lN mb = lN 0 from e)) (by omega)) ?_
    rw [pk_lRem (by omega) (by omega) (by omega)]
    refine V_l2i dX7_drawn_82 ?_
    rw [lN_i]
    refine V_ist8 dX7_drawn_83 rfl ?_
    refine V_ald0 dX7_drawn_85 ?_
    refine V_ald0 dX7_drawn_86 ?_
    refine V_getR dX7_drawn_87 flX7_41 (hM.1 0 (0, 7) rfl) (show G 40 0 18 = some (40, 19) from hM.2 18 (1, 67) rfl) ?_
    refine V_ild8 dX7_drawn_90 ?_
    refine V_iv2 dX7_drawn_92 wlX7_195 mdX7_isInTray miX7_isInTray rfl (hM.1 0 (0, 7) rfl) rfl rfl (kX7_isInTray (hM.1 19 (1, 67) rfl) (by omega) ⟨rfl, ?_⟩)
    refine V_ifeqB (tgt := 119) dX7_drawn_95 (by decide) (fun c95 => ?_) (fun c95 => ?_)
    · skip
      refine V_lld4 dX7_drawn_119 ?_
      refine V_ldc2 dX7_drawn_121 wjX7_254 ?_
      rw [show (3 : Int64) = lN 3 by decide]
      refine V_lrem dX7_drawn_124 (by decide) ?_
      rw [pk_lRem (by omega) (by decide) (by decide)]
      refine V_lconst (v := lN 0) dX7_drawn_125 (rfl) ?_
      refine V_lcmp dX7_drawn_126 ?_
      refine V_ifne (tgt := 145) dX7_drawn_127 (by decide) (fun c127 => ?_) (fun c127 => ?_)
      · replace c127 : ¬ x2 % 3 = 0 := fun e => c127 ((lg_cmp_eq _ _).mpr (by rw [e]))
        refine V_eqN (N' := va_up N 40 (va_up S 19 (rDist f mb pn x2))) (by rw [rDist, if_neg c95, if_neg c127]) ?_
        refine V_ild3 dX7_drawn_145 ?_
        refine V_ifne (tgt := 156) dX7_drawn_146 (by decide) (fun c146 => ?_) (fun c146 => ?_)
        · skip
          refine V_ald0 dX7_drawn_156 ?_
          refine V_iv0 dX7_drawn_157 wlX7_208 mdX7_leftOf miX7_leftOf rfl (hM.1 0 (0, 7) rfl) rfl rfl (kX7_leftOf hM hkd ⟨rfl, ?_⟩)
          refine V_ist9 dX7_drawn_160 rfl ?_
          refine V_ald0 dX7_drawn_162 ?_
          refine V_iconst (v := nI 1) dX7_drawn_163 (by decide) ?_
          refine V_iv1 dX7_drawn_164 wlX7_205 mdX7_goes miX7_goes rfl (hM.1 0 (0, 7) rfl) rfl rfl (kX7_goes (n := 1) hM hkd (by decide) ⟨rfl, ?_⟩)
          refine V_ild6 dX7_drawn_167 ?_
          refine V_ild3 dX7_drawn_169 ?_
          refine V_ifne (tgt := 180) dX7_drawn_170 (by decide) (fun c170 => ?_) (fun c170 => ?_)
          · skip
            refine V_ald0 dX7_drawn_180 ?_
            refine V_iv0 dX7_drawn_181 wlX7_208 mdX7_leftOf miX7_leftOf rfl (hM.1 0 (0, 7) rfl) rfl rfl (kX7_leftOf hM (hkd.go 1) ⟨rfl, ?_⟩)
            refine V_ild9 dX7_drawn_184 ?_
            refine V_iconst (v := (-1)) dX7_drawn_186 (by decide) ?_
            refine V_ixor dX7_drawn_187 ?_
            refine V_iand dX7_drawn_188 ?_
            refine V_is1 dX7_drawn_189 wlX7_217 mdX7_bits msX7_bits rfl rfl (kX7_bits ⟨rfl, ?_⟩)
            refine V_iadd dX7_drawn_192 ?_
            refine V_ist6 dX7_drawn_193 rfl ?_
            refine V_incN7 dX7_drawn_195 rfl ?_
            refine V_goto (tgt := 56) dX7_drawn_198 (by decide) ?_
            rw [show n - i = n - (i + 1) + 1 by omega, rDraw, ← hx2] at hq
            exact hni (by omega) _ _ _ _ _ (by omega) hkd.tick hq
          · exact absurd c170 hy
        · exact absurd c146 hy
      · replace c127 : x2 % 3 = 0 := (pk_lEQ (by omega) (by decide)).mp ((lg_cmp_eq _ _).mp (Classical.byContradiction fun q => absurd c127 q))
        refine V_ald0 dX7_drawn_130 ?_
        refine V_iconst (v := nI 1) dX7_drawn_131 (by decide) ?_
        refine V_lld4 dX7_drawn_132 ?_
        refine V_ald0 dX7_drawn_134 ?_
        refine V_getIs dX7_drawn_135 flX7_77 (hM.1 0 (0, 7) rfl) (by decide) ?_
        refine V_eqI hk0.e9 ?_
        refine V_i2l dX7_drawn_138 ?_
        rw [nI_l (by omega)]
        refine V_lrem dX7_drawn_139 (fun e => absurd ((pk_lEQ (by omega) (by decide)).mp (show lN pn = lN 0 from e)) (by omega)) ?_
        rw [pk_lRem (by omega) (by omega) (by omega)]
        refine V_l2i dX7_drawn_140 ?_
        rw [lN_i]
        refine V_ishl dX7_drawn_141 ?_
        rw [nI_1shl (by omega)]
        refine V_iv1 dX7_drawn_142 wlX7_214 mdX7_tipsNow miX7_tipsNow rfl (hM.1 0 (0, 7) rfl) rfl rfl (kX7_tipsNow hM hk0.e9 hk0.pn ⟨rfl, ?_⟩)
        refine V_eqN (N' := va_up N 40 (va_up S 19 (rDist f mb pn x2))) (by rw [rDist, if_neg c95, if_pos c127]) ?_
        refine V_ild3 dX7_drawn_145 ?_
        refine V_ifne (tgt := 156) dX7_drawn_146 (by decide) (fun c146 => ?_) (fun c146 => ?_)
        · skip
          refine V_ald0 dX7_drawn_156 ?_
          refine V_iv0 dX7_drawn_157 wlX7_208 mdX7_leftOf miX7_leftOf rfl (hM.1 0 (0, 7) rfl) rfl rfl (kX7_leftOf hM hkd ⟨rfl, ?_⟩)
          refine V_ist9 dX7_drawn_160 rfl ?_
          refine V_ald0 dX7_drawn_162 ?_
          refine V_iconst (v := nI 1) dX7_drawn_163 (by decide) ?_
          refine V_iv1 dX7_drawn_164 wlX7_205 mdX7_goes miX7_goes rfl (hM.1 0 (0, 7) rfl) rfl rfl (kX7_goes (n := 1) hM hkd (by decide) ⟨rfl, ?_⟩)
          refine V_ild6 dX7_drawn_167 ?_
          refine V_ild3 dX7_drawn_169 ?_
          refine V_ifne (tgt := 180) dX7_drawn_170 (by decide) (fun c170 => ?_) (fun c170 => ?_)
          · skip
            refine V_ald0 dX7_drawn_180 ?_
            refine V_iv0 dX7_drawn_181 wlX7_208 mdX7_leftOf miX7_leftOf rfl (hM.1 0 (0, 7) rfl) rfl rfl (kX7_leftOf hM (hkd.go 1) ⟨rfl, ?_⟩)
            refine V_ild9 dX7_drawn_184 ?_
            refine V_iconst (v := (-1)) dX7_drawn_186 (by decide) ?_
            refine V_ixor dX7_drawn_187 ?_
            refine V_iand dX7_drawn_188 ?_
            refine V_is1 dX7_drawn_189 wlX7_217 mdX7_bits msX7_bits rfl rfl (kX7_bits ⟨rfl, ?_⟩)
            refine V_iadd dX7_drawn_192 ?_
            refine V_ist6 dX7_drawn_193 rfl ?_
            refine V_incN7 dX7_drawn_195 rfl ?_
            refine V_goto (tgt := 56) dX7_drawn_198 (by decide) ?_
            rw [show n - i = n - (i + 1) + 1 by omega, rDraw, ← hx2] at hq
            exact hni (by omega) _ _ _ _ _ (by omega) hkd.tick hq
          · exact absurd c170 hy
        · exact absurd c146 hy
    · skip
      refine V_ald0 dX7_drawn_98 ?_
      refine V_getR dX7_drawn_99 flX7_41 (hM.1 0 (0, 7) rfl) (show G 40 0 18 = some (40, 19) from hM.2 18 (1, 67) rfl) ?_
      refine V_ild8 dX7_drawn_102 ?_
      refine V_lld4 dX7_drawn_104 ?_
      refine V_ldc2 dX7_drawn_106 wjX7_252 ?_
      rw [show (9 : Int64) = lN 9 by decide]
      refine V_lrem dX7_drawn_109 (by decide) ?_
      rw [pk_lRem (by omega) (by decide) (by decide)]
      refine V_l2i dX7_drawn_110 ?_
      rw [lN_i]
      refine V_iconst (v := nI 1) dX7_drawn_111 (by decide) ?_
      refine V_iaddN dX7_drawn_112 ?_
      refine V_is3 dX7_drawn_113 wlX7_199 mdX7_comes msX7_comes rfl rfl (kX7_comes (hM.1 19 (1, 67) rfl) (by omega) ⟨rfl, ?_⟩)
      refine V_goto (tgt := 145) dX7_drawn_116 (by decide) ?_
      refine V_eqN (N' := va_up N 40 (va_up S 19 (rDist f mb pn x2))) (by rw [rDist, if_pos c95]) ?_
      refine V_ild3 dX7_drawn_145 ?_
      refine V_ifne (tgt := 156) dX7_drawn_146 (by decide) (fun c146 => ?_) (fun c146 => ?_)
      · skip
        refine V_ald0 dX7_drawn_156 ?_
        refine V_iv0 dX7_drawn_157 wlX7_208 mdX7_leftOf miX7_leftOf rfl (hM.1 0 (0, 7) rfl) rfl rfl (kX7_leftOf hM hkd ⟨rfl, ?_⟩)
        refine V_ist9 dX7_drawn_160 rfl ?_
        refine V_ald0 dX7_drawn_162 ?_
        refine V_iconst (v := nI 1) dX7_drawn_163 (by decide) ?_
        refine V_iv1 dX7_drawn_164 wlX7_205 mdX7_goes miX7_goes rfl (hM.1 0 (0, 7) rfl) rfl rfl (kX7_goes (n := 1) hM hkd (by decide) ⟨rfl, ?_⟩)
        refine V_ild6 dX7_drawn_167 ?_
        refine V_ild3 dX7_drawn_169 ?_
        refine V_ifne (tgt := 180) dX7_drawn_170 (by decide) (fun c170 => ?_) (fun c170 => ?_)
        · skip
          refine V_ald0 dX7_drawn_180 ?_
          refine V_iv0 dX7_drawn_181 wlX7_208 mdX7_leftOf miX7_leftOf rfl (hM.1 0 (0, 7) rfl) rfl rfl (kX7_leftOf hM (hkd.go 1) ⟨rfl, ?_⟩)
          refine V_ild9 dX7_drawn_184 ?_
          refine V_iconst (v := (-1)) dX7_drawn_186 (by decide) ?_
          refine V_ixor dX7_drawn_187 ?_
          refine V_iand dX7_drawn_188 ?_
          refine V_is1 dX7_drawn_189 wlX7_217 mdX7_bits msX7_bits rfl rfl (kX7_bits ⟨rfl, ?_⟩)
          refine V_iadd dX7_drawn_192 ?_
          refine V_ist6 dX7_drawn_193 rfl ?_
          refine V_incN7 dX7_drawn_195 rfl ?_
          refine V_goto (tgt := 56) dX7_drawn_198 (by decide) ?_
          rw [show n - i = n - (i + 1) + 1 by omega, rDraw, ← hx2] at hq
          exact hni (by omega) _ _ _ _ _ (by omega) hkd.tick hq
        · exact absurd c170 hy
      · exact absurd c146 hy
theorem kX7_drawn (hM : xMo Y G) {mb pn : Nat} (hr : rSt S mb pn) {z x y v : Int32} (hv : ∀ n sd, z = nI n → n ≤ 60 → x = nI sd → sd ≤ 999999 → 1 ≤ mb → rOK (S 0) (S 11) mb pn (S 13) → ∀ f, ag f (S 13) → rDraw (S 0) (S 11) mb pn (if y = 0 then nI 9 else nI 8) n sd f (nI 0) = v) (hQ : ∀ S2, rKeep S S2 → Q (some (xI (if nI pn = 0 then -1000002 else if rIn z (nI 0) (nI 60) ∧ rIn x (nI 1) (nI 999999) ∧ rIn y (nI 0) (nI 1) then v else -1000001))) Y G (va_up N 40 S2)) : V RX7 false cX7_drawn 10 (some .int) none (d + 4) b 0 [some (xR 40 0), some (xI z), some (xI x), some (xI y), none, none, none, none, none, none] [] Y G (va_up N 40 S) Q := by
  refine V_ald0 dX7_drawn_0 ?_
  refine V_iv0 dX7_drawn_1 wlX7_174 mdX7_isNone miX7_isNone rfl (hM.1 0 (0, 7) rfl) rfl rfl (kX7_isNone hM ⟨rfl, ?_⟩)
  rw [hr.2.1]
  refine V_ifeqB (tgt := 10) dX7_drawn_4 (by decide) (fun c4 => ?_) (fun c4 => ?_)
  · skip
    refine V_ild1 dX7_drawn_10 ?_
    refine V_iconst (v := nI 0) dX7_drawn_11 (by decide) ?_
    refine V_bipush (v := nI 60) dX7_drawn_12 (by decide) ?_
    refine V_is3 dX7_drawn_14 wlX7_70 mdX7_in msX7_in rfl rfl (kX7_in ⟨rfl, ?_⟩)
    refine V_ifeqB (tgt := 39) dX7_drawn_17 (by decide) (fun c17 => ?_) (fun c17 => ?_)
    · skip
      refine V_ldc dX7_drawn_39 wkX7_84 ?_
      refine V_ireturn dX7_drawn_41 ⟨_, rfl, vp_nar_int _⟩ ?_
      have hq := hQ S (rKeep.rf S)
      rw [if_neg c4, if_neg (fun h => c17 h.1)] at hq
      exact hq
    · skip
      refine V_ild2 dX7_drawn_20 ?_
      refine V_iconst (v := nI 1) dX7_drawn_21 (by decide) ?_
      refine V_ldc dX7_drawn_22 wkX7_247 ?_
      rw [show (999999 : Int32) = nI 999999 by decide]
      refine V_is3 dX7_drawn_24 wlX7_70 mdX7_in msX7_in rfl rfl (kX7_in ⟨rfl, ?_⟩)
      refine V_ifeqB (tgt := 39) dX7_drawn_27 (by decide) (fun c27 => ?_) (fun c27 => ?_)
      · skip
        refine V_ldc dX7_drawn_39 wkX7_84 ?_
        refine V_ireturn dX7_drawn_41 ⟨_, rfl, vp_nar_int _⟩ ?_
        have hq := hQ S (rKeep.rf S)
        rw [if_neg c4, if_neg (fun h => c27 h.2.1)] at hq
        exact hq
      · skip
        refine V_ild3 dX7_drawn_30 ?_
        refine V_iconst (v := nI 0) dX7_drawn_31 (by decide) ?_
        refine V_iconst (v := nI 1) dX7_drawn_32 (by decide) ?_
        refine V_is3 dX7_drawn_33 wlX7_70 mdX7_in msX7_in rfl rfl (kX7_in ⟨rfl, ?_⟩)
        refine V_ifneB (tgt := 42) dX7_drawn_36 (by decide) (fun c36 => ?_) (fun c36 => ?_)
        · skip
          obtain ⟨n, hn0, hn1, rfl⟩ := rIn_k c17 (by decide) (by decide)
          obtain ⟨sd, hs0, hs1, rfl⟩ := rIn_k c27 (by decide) (by decide)
          obtain ⟨hm1, hk⟩ := hr.ok0 c4
          refine V_ild2 dX7_drawn_42 ?_
          refine V_i2l dX7_drawn_43 ?_
          rw [nI_l (by omega)]
          refine V_lst4 dX7_drawn_44 rfl ?_
          refine V_iconst (v := nI 0) dX7_drawn_46 (by decide) ?_
          refine V_ist6 dX7_drawn_47 rfl ?_
          refine V_ald0 dX7_drawn_49 ?_
          refine V_iv0 dX7_drawn_50 wlX7_202 mdX7_asItIs miX7_asItIs rfl (hM.1 0 (0, 7) rfl) rfl rfl (kX7_asItIs hM (fun f hf => ⟨rfl, ?_⟩))
          have hkf := hk.ag hf
          refine V_iconst (v := nI 0) dX7_drawn_53 (by decide) ?_
          refine V_ist7 dX7_drawn_54 rfl ?_
          by_cases hy : y = 0
          · refine xDrawR hM hm1 hn1 (by omega) hy hkf (fun f2 => ?_)
            have hq := hQ _ (rKeep.n S f2)
            have hvv := hv n sd rfl hn1 rfl hs1 hm1 hk f hf
            rw [if_pos hy] at hvv
            rw [if_neg c4, if_pos ⟨c17, c27, c36⟩, ← hvv] at hq
            exact hq
          · refine xDrawL hM hm1 hn1 (by omega) hy hkf (fun f2 => ?_)
            have hq := hQ _ (rKeep.n S f2)
            have hvv := hv n sd rfl hn1 rfl hs1 hm1 hk f hf
            rw [if_neg hy] at hvv
            rw [if_neg c4, if_pos ⟨c17, c27, c36⟩, ← hvv] at hq
            exact hq
        · skip
          refine V_ldc dX7_drawn_39 wkX7_84 ?_
          refine V_ireturn dX7_drawn_41 ⟨_, rfl, vp_nar_int _⟩ ?_
          have hq := hQ S (rKeep.rf S)
          rw [if_neg c4, if_neg (fun h => c36 h.2.2)] at hq
          exact hq
  · skip
    refine V_ldc dX7_drawn_7 wkX7_173 ?_
    refine V_ireturn dX7_drawn_9 ⟨_, rfl, vp_nar_int _⟩ ?_
    have hq := hQ S (rKeep.rf S)
    rw [if_pos c4] at hq
    exact hq
end KM
