section KM
variable {d : Nat} {b : Nat × Nat} {Y : xY} {G : xG} {N : xM} {S : xT} {f : Nat → Int32} {Q : Option xAV → xY → xG → xM → Prop} {c : Nat}
theorem kX7_bring {a na nc i j n : Nat} (hac : a ≠ c) (ha : ((40, a), (1, na)) ∈ Y) (hc : ((40, c), (1, nc)) ∈ Y) (hna : na < 2 ^ 31) (hnc : nc < 2 ^ 31) (hi : i + n ≤ na) (hj : j + n ≤ nc) (hQ : Q none Y G (va_up N 40 (va_up S c (rBring (S a) f i j n)))) : V RX7 false cX7_bring 6 none none d b 0 [some (xR 40 a), some (xI (nI i)), some (xR 40 c), some (xI (nI j)), some (xI (nI n)), none] [] Y G (va_up N 40 (va_up S c f)) Q := by
  refine V_iconst (v := nI 0) dX7_bring_0 (by decide) ?_
  refine V_ist5 dX7_bring_1 rfl ?_
  refine xDown (P := fun k => V RX7 false cX7_bring 6 none none d b 3 [some (xR 40 a), some (xI (nI i)), some (xR 40 c), some (xI (nI j)), some (xI (nI n)), some (xI (nI k))] [] Y G (va_up N 40 (va_up S c (rBring (S a) f i j k))) Q) n ?_ 0 (Nat.zero_le _)
  intro k hik hnk
  refine V_ild5 dX7_bring_3 ?_
  refine V_ild4 dX7_bring_5 ?_
  refine V_icmpgeN (tgt := 28) dX7_bring_7 (by decide) (by omega) (by omega) (fun c7 => ?_) (fun c7 => ?_)
  · skip
    refine V_return dX7_bring_28 rfl ?_
    rw [show n = k by omega] at hQ
    exact hQ
  · skip
    refine V_ald2 dX7_bring_10 ?_
    refine V_ild3 dX7_bring_11 ?_
    refine V_ild5 dX7_bring_12 ?_
    refine V_iaddN dX7_bring_14 ?_
    refine V_ald0 dX7_bring_15 ?_
    refine V_ild1 dX7_bring_16 ?_
    refine V_ild5 dX7_bring_17 ?_
    refine V_iaddN dX7_bring_19 ?_
    refine V_ian dX7_bring_20 ha hac (by omega) hna ?_
    refine V_iasc dX7_bring_21 hc (by omega) hnc ?_
    refine V_incN5 dX7_bring_22 rfl ?_
    refine V_goto (tgt := 3) dX7_bring_25 (by decide) ?_
    exact hnk (by omega)
def rBringI (f : Nat → Int32) (i j : Nat) : Nat → Nat → Int32
  | 0 => f
  | k + 1 => upd (rBringI f i j k) (j + k) (rBringI f i j k (i + k))
theorem kX7_bringI {nc i j n : Nat} (hc : ((40, c), (1, nc)) ∈ Y) (hnc : nc < 2 ^ 31) (hi : i + n ≤ nc) (hj : j + n ≤ nc) (hQ : Q none Y G (va_up N 40 (va_up S c (rBringI f i j n)))) : V RX7 false cX7_bring 6 none none d b 0 [some (xR 40 c), some (xI (nI i)), some (xR 40 c), some (xI (nI j)), some (xI (nI n)), none] [] Y G (va_up N 40 (va_up S c f)) Q := by
  refine V_iconst (v := nI 0) dX7_bring_0 (by decide) ?_
  refine V_ist5 dX7_bring_1 rfl ?_
  refine xDown (P := fun k => V RX7 false cX7_bring 6 none none d b 3 [some (xR 40 c), some (xI (nI i)), some (xR 40 c), some (xI (nI j)), some (xI (nI n)), some (xI (nI k))] [] Y G (va_up N 40 (va_up S c (rBringI f i j k))) Q) n ?_ 0 (Nat.zero_le _)
  intro k hik hnk
  refine V_ild5 dX7_bring_3 ?_
  refine V_ild4 dX7_bring_5 ?_
  refine V_icmpgeN (tgt := 28) dX7_bring_7 (by decide) (by omega) (by omega) (fun c7 => ?_) (fun c7 => ?_)
  · skip
    refine V_return dX7_bring_28 rfl ?_
    rw [show n = k by omega] at hQ
    exact hQ
  · skip
    refine V_ald2 dX7_bring_10 ?_
    refine V_ild3 dX7_bring_11 ?_
    refine V_ild5 dX7_bring_12 ?_
    refine V_iaddN dX7_bring_14 ?_
    refine V_ald0 dX7_bring_15 ?_
    refine V_ild1 dX7_bring_16 ?_
    refine V_ild5 dX7_bring_17 ?_
    refine V_iaddN dX7_bring_19 ?_
    refine V_iac dX7_bring_20 hc (by omega) hnc ?_
    refine V_iasc dX7_bring_21 hc (by omega) hnc ?_
    refine V_incN5 dX7_bring_22 rfl ?_
    refine V_goto (tgt := 3) dX7_bring_25 (by decide) ?_
    exact hnk (by omega)
def rW (f : Nat → Int32) (p : Nat) : Nat → Int32 := if nI 999 ≤ f (33 + p) then upd f (33 + p) (f (33 + p) + nI 0) else upd f (33 + p) (f (33 + p) + nI 1)
def rB (f : Nat → Int32) (m p : Nat) : Nat → Int32 := if f (41 + p) + f (55 + m) ≤ nI 9999 then upd f (41 + p) (f (41 + p) + f (55 + m)) else upd f (41 + p) (nI 9999)
def rEnd (o f : Nat → Int32) (m p : Nat) (side : Int32) : Nat → Int32 := if side = nI 1 then upd f (49 + m) (rTo o (f (17 + p))) else upd f (49 + m) (rTo o (f (9 + p)))
def rRel (o f : Nat → Int32) (m p : Nat) : Nat → Int32 := upd (upd f (49 + (f (25 + p)).toNatClampNeg) (rTo o (f (9 + p)))) (25 + p) (-1000000)
def rL2 (o so f : Nat → Int32) (m p : Nat) : Nat → Int32 :=
  if (o 11 >>> (nI p &&& 31)) &&& nI 1 = nI 1 then upd f (49 + m) (rTo o (f (9 + p)))
  else if so p = nI (1 + 0) then rEnd o (upd f (1 + p) (nI 1 - f (1 + p))) m p (f (1 + p))
  else if so p = nI (1 + 1) then (if f (33 + p) - f (33 + p) / nI 2 * nI 2 = 0 then rEnd o (upd f (1 + p) (nI 1 - f (1 + p))) m p (f (1 + p)) else rEnd o (upd f (1 + p) (f (1 + p))) m p (f (1 + p)))
  else if so p = nI (1 + 2) then (if f (25 + p) = -1000000 then upd (upd f (25 + p) (nI m)) (49 + m) (nI (20 + p)) else rEnd o (rRel o f m p) m p (nI 1))
  else if so p = nI (1 + 3) then (if f (55 + m) < o 7 then rEnd o f m p (nI 0) else rEnd o f m p (nI 1))
  else (if f (41 + p) - f (41 + p) / nI 2 * nI 2 = 0 then rEnd o f m p (nI 1) else rEnd o f m p (nI 0))
def rLeave (o so f : Nat → Int32) (m : Nat) : Nat → Int32 := rL2 o so (rB (rW f (f (49 + m)).toNatClampNeg) m (f (49 + m)).toNatClampNeg) m (f (49 + m)).toNatClampNeg
theorem rW_at (f : Nat → Int32) (p : Nat) {j : Nat} (h : j ≠ 33 + p) : rW f p j = f j := by
  unfold rW
  split <;> simp [upd, h]
theorem rB_at (f : Nat → Int32) (m p : Nat) {j : Nat} (h : j ≠ 41 + p) : rB f m p j = f j := by
  unfold rB
  split <;> simp [upd, h]
theorem kX7_leaves (hM : xMo Y G) (h0 : 0 ≠ c) (h11 : 11 ≠ c) (hc : ((40, c), (1, 67)) ∈ Y) {m p : Nat} (hm : m < 6) (hp8 : p < 8) (hp : f (49 + m) = nI p) (hh : ¬ f (25 + p) = -1000000 → ∃ m2, m2 < 18 ∧ f (25 + p) = nI m2) (hQ : Q none Y G (va_up N 40 (va_up S c (rLeave (S 0) (S 11) f m)))) : V RX7 false cX7_leaves 5 none none (d + 1) b 0 [some (xR 40 0), some (xR 40 c), some (xI (nI m)), none, none] [] Y G (va_up N 40 (va_up S c f)) Q := by
  refine V_ald1 dX7_leaves_0 ?_
  refine V_bipush (v := nI 49) dX7_leaves_1 (by decide) ?_
  refine V_ild2 dX7_leaves_3 ?_
  refine V_iaddN dX7_leaves_4 ?_
  refine V_iac dX7_leaves_5 hc (by omega) (by decide) ?_
  refine V_eqI hp ?_
  refine V_ist3 dX7_leaves_6 rfl ?_
  have cut33 : V RX7 false cX7_leaves 5 none none (d + 1) b 33 [some (xR 40 0), some (xR 40 c), some (xI (nI m)), some (xI (nI p)), none] [] Y G (va_up N 40 (va_up S c (rW f p))) Q := by
    have hh : ¬ rB (rW f p) m p (25 + p) = -1000000 → ∃ m2, m2 < 18 ∧ rB (rW f p) m p (25 + p) = nI m2 := by
      rw [rB_at _ _ _ (by omega), rW_at _ _ (by omega)]
      exact hh
    rw [rLeave, hp, nI_clamp (by omega)] at hQ
    generalize rW f p = f at hQ hh ⊢
    have cut77 : V RX7 false cX7_leaves 5 none none (d + 1) b 77 [some (xR 40 0), some (xR 40 c), some (xI (nI m)), some (xI (nI p)), none] [] Y G (va_up N 40 (va_up S c (rB f m p))) Q := by
      generalize rB f m p = f at hQ hh ⊢
      refine V_ald0 dX7_leaves_77 ?_
      refine V_getIs dX7_leaves_78 flX7_162 (hM.1 0 (0, 7) rfl) h0 ?_
      refine V_ild3 dX7_leaves_81 ?_
      refine V_ishr dX7_leaves_82 ?_
      refine V_iconst (v := nI 1) dX7_leaves_83 (by decide) ?_
      refine V_iand dX7_leaves_84 ?_
      refine V_iconst (v := nI 1) dX7_leaves_85 (by decide) ?_
      refine V_icmpne (tgt := 102) dX7_leaves_86 (by decide) (fun c86 => ?_) (fun c86 => ?_)
      · skip
        refine V_ald1 dX7_leaves_102 ?_
        refine V_iconst (v := nI 1) dX7_leaves_103 (by decide) ?_
        refine V_ild3 dX7_leaves_104 ?_
        refine V_iaddN dX7_leaves_105 ?_
        refine V_iac dX7_leaves_106 hc (by omega) (by decide) ?_
        refine V_ist4 dX7_leaves_107 rfl ?_
        have cut285 : ∀ (side : Int32) (f : Nat → Int32), Q none Y G (va_up N 40 (va_up S c (rEnd (S 0) f m p side))) → V RX7 false cX7_leaves 5 none none (d + 1) b 285 [some (xR 40 0), some (xR 40 c), some (xI (nI m)), some (xI (nI p)), some (xI side)] [] Y G (va_up N 40 (va_up S c f)) Q := by
          intro side f hQ
          refine V_ald0 dX7_leaves_285 ?_
          refine V_ald1 dX7_leaves_286 ?_
          refine V_ild2 dX7_leaves_287 ?_
          refine V_ald1 dX7_leaves_288 ?_
          refine V_ild4 dX7_leaves_289 ?_
          refine V_iconst (v := nI 1) dX7_leaves_291 (by decide) ?_
          refine V_icmpne (tgt := 302) dX7_leaves_292 (by decide) (fun c292 => ?_) (fun c292 => ?_)
          · skip
            refine V_bipush (v := nI 9) dX7_leaves_302 (by decide) ?_
            refine V_ild3 dX7_leaves_304 ?_
            refine V_iaddN dX7_leaves_305 ?_
            refine V_iac dX7_leaves_306 hc (by omega) (by decide) ?_
            refine V_iv3 dX7_leaves_307 wlX7_165 mdX7_sends miX7_sends rfl (hM.1 0 (0, 7) rfl) rfl rfl (kX7_sends hM h0 hc (by omega) ⟨rfl, ?_⟩)
            refine V_return dX7_leaves_310 rfl ?_
            rw [rEnd, if_neg c292] at hQ
            exact hQ
          · skip
            refine V_bipush (v := nI 17) dX7_leaves_295 (by decide) ?_
            refine V_ild3 dX7_leaves_297 ?_
            refine V_iaddN dX7_leaves_298 ?_
            refine V_goto (tgt := 306) dX7_leaves_299 (by decide) ?_
            refine V_iac dX7_leaves_306 hc (by omega) (by decide) ?_
            refine V_iv3 dX7_leaves_307 wlX7_165 mdX7_sends miX7_sends rfl (hM.1 0 (0, 7) rfl) rfl rfl (kX7_sends hM h0 hc (by omega) ⟨rfl, ?_⟩)
            refine V_return dX7_leaves_310 rfl ?_
            rw [rEnd, if_pos c292] at hQ
            exact hQ
        refine V_ald0 dX7_leaves_109 ?_
        refine V_getR dX7_leaves_110 flX7_22 (hM.1 0 (0, 7) rfl) (show G 40 0 10 = some (40, 11) from hM.2 10 (1, 8) rfl) ?_
        refine V_ild3 dX7_leaves_113 ?_
        refine V_ian dX7_leaves_114 (hM.1 11 (1, 8) rfl) h11 (by omega) (by decide) ?_
        refine V_tsw4 (lo := 1) (t0 := 144) (t1 := 156) (t2 := 184) (t3 := 244) (td := 267) dX7_leaves_115 (by decide) (by decide) (by decide) (by decide) (by decide) (fun s115 => ?_) (fun s115 => ?_) (fun s115 => ?_) (fun s115 => ?_) (fun s115_0 s115_1 s115_2 s115_3 => ?_)
        · skip
          refine V_ald1 dX7_leaves_144 ?_
          refine V_iconst (v := nI 1) dX7_leaves_145 (by decide) ?_
          refine V_ild3 dX7_leaves_146 ?_
          refine V_iaddN dX7_leaves_147 ?_
          refine V_iconst (v := nI 1) dX7_leaves_148 (by decide) ?_
          refine V_ild4 dX7_leaves_149 ?_
          refine V_isub dX7_leaves_151 ?_
          refine V_iasc dX7_leaves_152 hc (by omega) (by decide) ?_
          refine V_goto (tgt := 285) dX7_leaves_153 (by decide) ?_
          rw [rL2, if_neg c86, if_pos s115] at hQ
          exact cut285 _ _ hQ
        · skip
          refine V_ald1 dX7_leaves_156 ?_
          refine V_iconst (v := nI 1) dX7_leaves_157 (by decide) ?_
          refine V_ild3 dX7_leaves_158 ?_
          refine V_iaddN dX7_leaves_159 ?_
          refine V_ald1 dX7_leaves_160 ?_
          refine V_bipush (v := nI 33) dX7_leaves_161 (by decide) ?_
          refine V_ild3 dX7_leaves_163 ?_
          refine V_iaddN dX7_leaves_164 ?_
          refine V_iac dX7_leaves_165 hc (by omega) (by decide) ?_
          refine V_iconst (v := nI 2) dX7_leaves_166 (by decide) ?_
          refine V_irem dX7_leaves_167 (by decide) ?_
          refine V_ifne (tgt := 178) dX7_leaves_168 (by decide) (fun c168 => ?_) (fun c168 => ?_)
          · skip
            refine V_ild4 dX7_leaves_178 ?_
            refine V_iasc dX7_leaves_180 hc (by omega) (by decide) ?_
            refine V_goto (tgt := 285) dX7_leaves_181 (by decide) ?_
            rw [rL2, if_neg c86, if_neg (fun e => xne s115 e (by decide)), if_pos s115, if_neg c168] at hQ
            exact cut285 _ _ hQ
          · skip
            refine V_iconst (v := nI 1) dX7_leaves_171 (by decide) ?_
            refine V_ild4 dX7_leaves_172 ?_
            refine V_isub dX7_leaves_174 ?_
            refine V_goto (tgt := 180) dX7_leaves_175 (by decide) ?_
            refine V_iasc dX7_leaves_180 hc (by omega) (by decide) ?_
            refine V_goto (tgt := 285) dX7_leaves_181 (by decide) ?_
            rw [rL2, if_neg c86, if_neg (fun e => xne s115 e (by decide)), if_pos s115, if_pos c168] at hQ
            exact cut285 _ _ hQ
        · skip
          refine V_ald1 dX7_leaves_184 ?_
          refine V_bipush (v := nI 25) dX7_leaves_185 (by decide) ?_
          refine V_ild3 dX7_leaves_187 ?_
          refine V_iaddN dX7_leaves_188 ?_
          refine V_iac dX7_leaves_189 hc (by omega) (by decide) ?_
          refine V_ldc dX7_leaves_190 wkX7_135 ?_
          refine V_icmpne (tgt := 213) dX7_leaves_192 (by decide) (fun c192 => ?_) (fun c192 => ?_)
          · skip
            obtain ⟨m2, hm2, e2⟩ := hh c192
            refine V_ald0 dX7_leaves_213 ?_
            refine V_ald1 dX7_leaves_214 ?_
            refine V_ald1 dX7_leaves_215 ?_
            refine V_bipush (v := nI 25) dX7_leaves_216 (by decide) ?_
            refine V_ild3 dX7_leaves_218 ?_
            refine V_iaddN dX7_leaves_219 ?_
            refine V_iac dX7_leaves_220 hc (by omega) (by decide) ?_
            refine V_eqI e2 ?_
            refine V_ald1 dX7_leaves_221 ?_
            refine V_bipush (v := nI 9) dX7_leaves_222 (by decide) ?_
            refine V_ild3 dX7_leaves_224 ?_
            refine V_iaddN dX7_leaves_225 ?_
            refine V_iac dX7_leaves_226 hc (by omega) (by decide) ?_
            refine V_iv3 dX7_leaves_227 wlX7_165 mdX7_sends miX7_sends rfl (hM.1 0 (0, 7) rfl) rfl rfl (kX7_sends hM h0 hc (by omega) ⟨rfl, ?_⟩)
            refine V_ald1 dX7_leaves_230 ?_
            refine V_bipush (v := nI 25) dX7_leaves_231 (by decide) ?_
            refine V_ild3 dX7_leaves_233 ?_
            refine V_iaddN dX7_leaves_234 ?_
            refine V_ldc dX7_leaves_235 wkX7_135 ?_
            refine V_iasc dX7_leaves_237 hc (by omega) (by decide) ?_
            refine V_iconst (v := nI 1) dX7_leaves_238 (by decide) ?_
            refine V_ist4 dX7_leaves_239 rfl ?_
            refine V_goto (tgt := 285) dX7_leaves_241 (by decide) ?_
            rw [rL2, if_neg c86, if_neg (fun e => xne s115 e (by decide)), if_neg (fun e => xne s115 e (by decide)), if_pos s115, if_neg c192, rRel, e2, nI_clamp (by omega)] at hQ
            exact cut285 _ _ hQ
          · skip
            refine V_ald1 dX7_leaves_195 ?_
            refine V_bipush (v := nI 25) dX7_leaves_196 (by decide) ?_
            refine V_ild3 dX7_leaves_198 ?_
            refine V_iaddN dX7_leaves_199 ?_
            refine V_ild2 dX7_leaves_200 ?_
            refine V_iasc dX7_leaves_201 hc (by omega) (by decide) ?_
            refine V_ald1 dX7_leaves_202 ?_
            refine V_bipush (v := nI 49) dX7_leaves_203 (by decide) ?_
            refine V_ild2 dX7_leaves_205 ?_
            refine V_iaddN dX7_leaves_206 ?_
            refine V_bipush (v := nI 20) dX7_leaves_207 (by decide) ?_
            refine V_ild3 dX7_leaves_209 ?_
            refine V_iaddN dX7_leaves_210 ?_
            refine V_iasc dX7_leaves_211 hc (by omega) (by decide) ?_
            refine V_return dX7_leaves_212 rfl ?_
            rw [rL2, if_neg c86, if_neg (fun e => xne s115 e (by decide)), if_neg (fun e => xne s115 e (by decide)), if_pos s115, if_pos c192] at hQ
            exact hQ
        · skip
          refine V_ald1 dX7_leaves_244 ?_
          refine V_bipush (v := nI 55) dX7_leaves_245 (by decide) ?_
          refine V_ild2 dX7_leaves_247 ?_
          refine V_iaddN dX7_leaves_248 ?_
          refine V_iac dX7_leaves_249 hc (by omega) (by decide) ?_
          refine V_ald0 dX7_leaves_250 ?_
          refine V_getIs dX7_leaves_251 flX7_152 (hM.1 0 (0, 7) rfl) h0 ?_
          refine V_icmplt (tgt := 261) dX7_leaves_254 (by decide) (fun c254 => ?_) (fun c254 => ?_)
          · skip
            refine V_iconst (v := nI 0) dX7_leaves_261 (by decide) ?_
            refine V_ist4 dX7_leaves_262 rfl ?_
            refine V_goto (tgt := 285) dX7_leaves_264 (by decide) ?_
            rw [rL2, if_neg c86, if_neg (fun e => xne s115 e (by decide)), if_neg (fun e => xne s115 e (by decide)), if_neg (fun e => xne s115 e (by decide)), if_pos s115, if_pos c254] at hQ
            exact cut285 _ _ hQ
          · skip
            refine V_iconst (v := nI 1) dX7_leaves_257 (by decide) ?_
            refine V_goto (tgt := 262) dX7_leaves_258 (by decide) ?_
            refine V_ist4 dX7_leaves_262 rfl ?_
            refine V_goto (tgt := 285) dX7_leaves_264 (by decide) ?_
            rw [rL2, if_neg c86, if_neg (fun e => xne s115 e (by decide)), if_neg (fun e => xne s115 e (by decide)), if_neg (fun e => xne s115 e (by decide)), if_pos s115, if_neg c254] at hQ
            exact cut285 _ _ hQ
        · skip
          refine V_ald1 dX7_leaves_267 ?_
          refine V_bipush (v := nI 41) dX7_leaves_268 (by decide) ?_
          refine V_ild3 dX7_leaves_270 ?_
          refine V_iaddN dX7_leaves_271 ?_
          refine V_iac dX7_leaves_272 hc (by omega) (by decide) ?_
          refine V_iconst (v := nI 2) dX7_leaves_273 (by decide) ?_
          refine V_irem dX7_leaves_274 (by decide) ?_
          refine V_ifne (tgt := 282) dX7_leaves_275 (by decide) (fun c275 => ?_) (fun c275 => ?_)
          · skip
            refine V_iconst (v := nI 0) dX7_leaves_282 (by decide) ?_
            refine V_ist4 dX7_leaves_283 rfl ?_
            rw [rL2, if_neg c86, if_neg s115_0, if_neg s115_1, if_neg s115_2, if_neg s115_3, if_neg c275] at hQ
            exact cut285 _ _ hQ
          · skip
            refine V_iconst (v := nI 1) dX7_leaves_278 (by decide) ?_
            refine V_goto (tgt := 283) dX7_leaves_279 (by decide) ?_
            refine V_ist4 dX7_leaves_283 rfl ?_
            rw [rL2, if_neg c86, if_neg s115_0, if_neg s115_1, if_neg s115_2, if_neg s115_3, if_pos c275] at hQ
            exact cut285 _ _ hQ
      · skip
        refine V_ald0 dX7_leaves_89 ?_
        refine V_ald1 dX7_leaves_90 ?_
        refine V_ild2 dX7_leaves_91 ?_
        refine V_ald1 dX7_leaves_92 ?_
        refine V_bipush (v := nI 9) dX7_leaves_93 (by decide) ?_
        refine V_ild3 dX7_leaves_95 ?_
        refine V_iaddN dX7_leaves_96 ?_
        refine V_iac dX7_leaves_97 hc (by omega) (by decide) ?_
        refine V_iv3 dX7_leaves_98 wlX7_165 mdX7_sends miX7_sends rfl (hM.1 0 (0, 7) rfl) rfl rfl (kX7_sends hM h0 hc (by omega) ⟨rfl, ?_⟩)
        refine V_return dX7_leaves_101 rfl ?_
        rw [rL2, if_pos c86] at hQ
        exact hQ
    refine V_ald1 dX7_leaves_33 ?_
    refine V_bipush (v := nI 41) dX7_leaves_34 (by decide) ?_
    refine V_ild3 dX7_leaves_36 ?_
    refine V_iaddN dX7_leaves_37 ?_
    refine V_ald1 dX7_leaves_38 ?_
    refine V_bipush (v := nI 41) dX7_leaves_39 (by decide) ?_
    refine V_ild3 dX7_leaves_41 ?_
    refine V_iaddN dX7_leaves_42 ?_
    refine V_iac dX7_leaves_43 hc (by omega) (by decide) ?_
    refine V_ald1 dX7_leaves_44 ?_
    refine V_bipush (v := nI 55) dX7_leaves_45 (by decide) ?_
    refine V_ild2 dX7_leaves_47 ?_
    refine V_iaddN dX7_leaves_48 ?_
    refine V_iac dX7_leaves_49 hc (by omega) (by decide) ?_
    refine V_iadd dX7_leaves_50 ?_
    refine V_sipush (v := nI 9999) dX7_leaves_51 (by decide) ?_
    refine V_icmple (tgt := 63) dX7_leaves_54 (by decide) (fun c54 => ?_) (fun c54 => ?_)
    · skip
      refine V_ald1 dX7_leaves_63 ?_
      refine V_bipush (v := nI 41) dX7_leaves_64 (by decide) ?_
      refine V_ild3 dX7_leaves_66 ?_
      refine V_iaddN dX7_leaves_67 ?_
      refine V_iac dX7_leaves_68 hc (by omega) (by decide) ?_
      refine V_ald1 dX7_leaves_69 ?_
      refine V_bipush (v := nI 55) dX7_leaves_70 (by decide) ?_
      refine V_ild2 dX7_leaves_72 ?_
      refine V_iaddN dX7_leaves_73 ?_
      refine V_iac dX7_leaves_74 hc (by omega) (by decide) ?_
      refine V_iadd dX7_leaves_75 ?_
      refine V_iasc dX7_leaves_76 hc (by omega) (by decide) ?_
      exact V_eqN (by rw [rB, if_pos c54]) cut77
    · skip
      refine V_sipush (v := nI 9999) dX7_leaves_57 (by decide) ?_
      refine V_goto (tgt := 76) dX7_leaves_60 (by decide) ?_
      refine V_iasc dX7_leaves_76 hc (by omega) (by decide) ?_
      exact V_eqN (by rw [rB, if_neg c54]) cut77
  refine V_ald1 dX7_leaves_7 ?_
  refine V_bipush (v := nI 33) dX7_leaves_8 (by decide) ?_
  refine V_ild3 dX7_leaves_10 ?_
  refine V_iaddN dX7_leaves_11 ?_
  refine V_dup2 dX7_leaves_12 ?_
  refine V_iac dX7_leaves_13 hc (by omega) (by decide) ?_
  refine V_ald1 dX7_leaves_14 ?_
  refine V_bipush (v := nI 33) dX7_leaves_15 (by decide) ?_
  refine V_ild3 dX7_leaves_17 ?_
  refine V_iaddN dX7_leaves_18 ?_
  refine V_iac dX7_leaves_19 hc (by omega) (by decide) ?_
  refine V_sipush (v := nI 999) dX7_leaves_20 (by decide) ?_
  refine V_icmpge (tgt := 30) dX7_leaves_23 (by decide) (fun c23 => ?_) (fun c23 => ?_)
  · skip
    refine V_iconst (v := nI 0) dX7_leaves_30 (by decide) ?_
    refine V_iadd dX7_leaves_31 ?_
    refine V_iasc dX7_leaves_32 hc (by omega) (by decide) ?_
    exact V_eqN (by rw [rW, if_pos c23]) cut33
  · skip
    refine V_iconst (v := nI 1) dX7_leaves_26 (by decide) ?_
    refine V_goto (tgt := 31) dX7_leaves_27 (by decide) ?_
    refine V_iadd dX7_leaves_31 ?_
    refine V_iasc dX7_leaves_32 hc (by omega) (by decide) ?_
    exact V_eqN (by rw [rW, if_neg c23]) cut33
end KM
