section KT
variable {d : Nat} {b : Nat × Nat} {Y : xY} {G : xG} {N : xM} {T : xT} {Q : Option xAV → xY → xG → xM → Prop} {r : Nat}
def tCnt (T : xT) (m p : Nat) : xT := va_up (va_up T 14 (upd (T 14) p (if T 14 p + nI 1 < nI 999 then T 14 p + nI 1 else nI 999))) 15 (upd (va_up T 14 (upd (T 14) p (if T 14 p + nI 1 < nI 999 then T 14 p + nI 1 else nI 999)) 15) p
  (if va_up T 14 (upd (T 14) p (if T 14 p + nI 1 < nI 999 then T 14 p + nI 1 else nI 999)) 15 p + va_up T 14 (upd (T 14) p (if T 14 p + nI 1 < nI 999 then T 14 p + nI 1 else nI 999)) 6 m < nI 9999 then va_up T 14 (upd (T 14) p (if T 14 p + nI 1 < nI 999 then T 14 p + nI 1 else nI 999)) 15 p + va_up T 14 (upd (T 14) p (if T 14 p + nI 1 < nI 999 then T 14 p + nI 1 else nI 999)) 6 m else nI 9999))
def tLat (T : xT) (p : Nat) : xT := if T 14 p - T 14 p / nI 2 * nI 2 = 0 then tSwing T p else T
def tRel3 (T : xT) (p : Nat) : xT := va_up T 13 (upd (T 13) p (-1000000))
def tRel2 (T : xT) (m p : Nat) : xT := tRel3 (tSend T (nI m) (T 12 p)) p
def tRel (T : xT) (m p : Nat) : xT := tRel2 (tSend T (T 13 p) (T 11 p)) m p
def tL2 (T : xT) (m p : Nat) : xT :=
  if (T 0 4 >>> (nI p &&& 31)) &&& nI 1 = 0 then
    if T 9 p = nI (1 + 0) then (if T 10 p = 0 then tSwing (tSend T (nI m) (T 11 p)) p else tSwing (tSend T (nI m) (T 12 p)) p)
    else if T 9 p = nI (1 + 1) then (if T 10 p = 0 then tLat (tSend T (nI m) (T 11 p)) p else tLat (tSend T (nI m) (T 12 p)) p)
    else if T 9 p = nI (1 + 2) then (if T 13 p = -1000000 then tHold T m p else tRel T m p)
    else if T 9 p = nI (1 + 3) then (if T 6 m < T 0 0 then tSend T (nI m) (T 11 p) else tSend T (nI m) (T 12 p))
    else (if T 15 p - T 15 p / nI 2 * nI 2 = 0 then tSend T (nI m) (T 12 p) else tSend T (nI m) (T 11 p))
  else tSend T (nI m) (T 11 p)
def tLeave (T : xT) (m p : Nat) : xT := tL2 (tCnt T m p) m p
theorem tSend_ne (T : xT) (m to : Int32) {c : Nat} (h : c ≠ 8) : tSend T m to c = T c := by
  unfold tSend
  split
  · rfl
  · split
    · rfl
    · exact va_up_no _ _ h
theorem tCnt_ne (T : xT) (m p : Nat) {c : Nat} (h : c ≠ 14) (h2 : c ≠ 15) : tCnt T m p c = T c := by
  unfold tCnt
  rw [va_up_no _ _ h2, va_up_no _ _ h]
theorem tHold_ne (T : xT) (m p : Nat) {c : Nat} (h : c ≠ 13) (h2 : c ≠ 8) : tHold T m p c = T c := by
  unfold tHold
  rw [va_up_no _ _ h2, va_up_no _ _ h]
theorem tL2_0 (T : xT) (m p : Nat) : tL2 T m p 0 = T 0 := by
  unfold tL2 tLat tRel tRel2 tRel3
  repeat' split
  all_goals first
    | (rw [tSwing_ne _ _ (by decide), tSend_ne _ _ _ (by decide)]; done)
    | (rw [tSend_ne _ _ _ (by decide)]; done)
    | (rw [tHold_ne _ _ _ (by decide) (by decide)]; done)
    | (rw [va_up_no _ _ (by decide), tSend_ne _ _ _ (by decide), tSend_ne _ _ _ (by decide)]; done)
theorem tLeave_0 (T : xT) (m p : Nat) : tLeave T m p 0 = T 0 := by rw [tLeave, tL2_0, tCnt_ne _ _ _ (by decide) (by decide)]
theorem kX5_leave (hT : xTr Y G r) {mb : Nat} (hmb : T 0 2 = nI mb) (hm6 : mb ≤ 6) {m p : Nat} (hm : m < 6) (hp : p < 8) (hQ : Q none Y G (va_up N r (tLeave T m p))) : V RX5 false cX5_leave 3 none none (d + 1) b 0 [some (xR r 0), some (xI (nI m)), some (xI (nI p))] [] Y G (va_up N r T) Q := by
  refine V_ald0 dX5_leave_0 ?_
  refine V_getR dX5_leave_1 flX5_52 (hT.1 0 (0, 5) rfl) (show G r 0 13 = some (r, 14) from hT.2 13 (by decide) (by decide)) ?_
  refine V_ild2 dX5_leave_4 ?_
  refine V_sipush (v := nI 999) dX5_leave_5 (by decide) ?_
  refine V_ald0 dX5_leave_8 ?_
  refine V_getR dX5_leave_9 flX5_52 (hT.1 0 (0, 5) rfl) (show G r 0 13 = some (r, 14) from hT.2 13 (by decide) (by decide)) ?_
  refine V_ild2 dX5_leave_12 ?_
  refine V_iar dX5_leave_13 (hT.1 14 (1, 8) rfl) (by omega) (by decide) ?_
  refine V_iconst (v := nI 1) dX5_leave_14 (by decide) ?_
  refine V_iadd dX5_leave_15 ?_
  refine V_mmin dX5_leave_16 wlX5_79 rfl ?_
  refine V_iasr dX5_leave_19 (hT.1 14 (1, 8) rfl) (by omega) (by decide) ?_
  refine V_ald0 dX5_leave_20 ?_
  refine V_getR dX5_leave_21 flX5_55 (hT.1 0 (0, 5) rfl) (show G r 0 14 = some (r, 15) from hT.2 14 (by decide) (by decide)) ?_
  refine V_ild2 dX5_leave_24 ?_
  refine V_sipush (v := nI 9999) dX5_leave_25 (by decide) ?_
  refine V_ald0 dX5_leave_28 ?_
  refine V_getR dX5_leave_29 flX5_55 (hT.1 0 (0, 5) rfl) (show G r 0 14 = some (r, 15) from hT.2 14 (by decide) (by decide)) ?_
  refine V_ild2 dX5_leave_32 ?_
  refine V_iar dX5_leave_33 (hT.1 15 (1, 8) rfl) (by omega) (by decide) ?_
  refine V_ald0 dX5_leave_34 ?_
  refine V_getR dX5_leave_35 flX5_27 (hT.1 0 (0, 5) rfl) (show G r 0 5 = some (r, 6) from hT.2 5 (by decide) (by decide)) ?_
  refine V_ild1 dX5_leave_38 ?_
  refine V_iar dX5_leave_39 (hT.1 6 (1, 6) rfl) (by omega) (by decide) ?_
  refine V_iadd dX5_leave_40 ?_
  refine V_mmin dX5_leave_41 wlX5_79 rfl ?_
  refine V_iasr dX5_leave_44 (hT.1 15 (1, 8) rfl) (by omega) (by decide) ?_
  rw [tLeave] at hQ
  show V _ _ _ _ _ _ _ _ _ _ _ _ _ (va_up N r (tCnt T m p)) _
  have hmb : tCnt T m p 0 2 = nI mb := by rw [tCnt_ne _ _ _ (by decide) (by decide)]; exact hmb
  generalize tCnt T m p = T at hQ hmb ⊢
  refine V_ald0 dX5_leave_45 ?_
  refine V_getIr dX5_leave_46 flX5_24 (hT.1 0 (0, 5) rfl) ?_
  refine V_ild2 dX5_leave_49 ?_
  refine V_ishr dX5_leave_50 ?_
  refine V_iconst (v := nI 1) dX5_leave_51 (by decide) ?_
  refine V_iand dX5_leave_52 ?_
  refine V_ifeq (tgt := 68) dX5_leave_53 (by decide) (fun c53 => ?_) (fun c53 => ?_)
  · skip
    refine V_ald0 dX5_leave_68 ?_
    refine V_getR dX5_leave_69 flX5_37 (hT.1 0 (0, 5) rfl) (show G r 0 8 = some (r, 9) from hT.2 8 (by decide) (by decide)) ?_
    refine V_ild2 dX5_leave_72 ?_
    refine V_iar dX5_leave_73 (hT.1 9 (1, 8) rfl) (by omega) (by decide) ?_
    refine V_tsw4 (lo := 1) (t0 := 104) (t1 := 141) (t2 := 189) (t3 := 247) (td := 283) dX5_leave_74 (by decide) (by decide) (by decide) (by decide) (by decide) (fun s74 => ?_) (fun s74 => ?_) (fun s74 => ?_) (fun s74 => ?_) (fun s74_0 s74_1 s74_2 s74_3 => ?_)
    · skip
      refine V_ald0 dX5_leave_104 ?_
      refine V_ild1 dX5_leave_105 ?_
      refine V_ald0 dX5_leave_106 ?_
      refine V_getR dX5_leave_107 flX5_40 (hT.1 0 (0, 5) rfl) (show G r 0 9 = some (r, 10) from hT.2 9 (by decide) (by decide)) ?_
      refine V_ild2 dX5_leave_110 ?_
      refine V_iar dX5_leave_111 (hT.1 10 (1, 8) rfl) (by omega) (by decide) ?_
      refine V_ifne (tgt := 124) dX5_leave_112 (by decide) (fun c112 => ?_) (fun c112 => ?_)
      · skip
        refine V_ald0 dX5_leave_124 ?_
        refine V_getR dX5_leave_125 flX5_46 (hT.1 0 (0, 5) rfl) (show G r 0 11 = some (r, 12) from hT.2 11 (by decide) (by decide)) ?_
        refine V_ild2 dX5_leave_128 ?_
        refine V_iar dX5_leave_129 (hT.1 12 (1, 8) rfl) (by omega) (by decide) ?_
        refine V_iv2 dX5_leave_130 wlX5_85 mdX5_send miX5_send rfl (hT.1 0 (0, 5) rfl) rfl rfl (kX5_send hT (mb := mb) hmb hm6 ⟨rfl, ?_⟩)
        refine V_ald0 dX5_leave_133 ?_
        refine V_ild2 dX5_leave_134 ?_
        refine V_iv1 dX5_leave_135 wlX5_88 mdX5_swing miX5_swing rfl (hT.1 0 (0, 5) rfl) rfl rfl (kX5_swing hT (by omega) ⟨rfl, ?_⟩)
        refine V_goto (tgt := 314) dX5_leave_138 (by decide) ?_
        refine V_return dX5_leave_314 rfl ?_
        rw [tL2, if_pos c53, if_pos s74, if_neg c112] at hQ
        exact hQ
      · skip
        refine V_ald0 dX5_leave_115 ?_
        refine V_getR dX5_leave_116 flX5_43 (hT.1 0 (0, 5) rfl) (show G r 0 10 = some (r, 11) from hT.2 10 (by decide) (by decide)) ?_
        refine V_ild2 dX5_leave_119 ?_
        refine V_iar dX5_leave_120 (hT.1 11 (1, 8) rfl) (by omega) (by decide) ?_
        refine V_goto (tgt := 130) dX5_leave_121 (by decide) ?_
        refine V_iv2 dX5_leave_130 wlX5_85 mdX5_send miX5_send rfl (hT.1 0 (0, 5) rfl) rfl rfl (kX5_send hT (mb := mb) hmb hm6 ⟨rfl, ?_⟩)
        refine V_ald0 dX5_leave_133 ?_
        refine V_ild2 dX5_leave_134 ?_
        refine V_iv1 dX5_leave_135 wlX5_88 mdX5_swing miX5_swing rfl (hT.1 0 (0, 5) rfl) rfl rfl (kX5_swing hT (by omega) ⟨rfl, ?_⟩)
        refine V_goto (tgt := 314) dX5_leave_138 (by decide) ?_
        refine V_return dX5_leave_314 rfl ?_
        rw [tL2, if_pos c53, if_pos s74, if_pos c112] at hQ
        exact hQ
    · skip
      refine V_ald0 dX5_leave_141 ?_
      refine V_ild1 dX5_leave_142 ?_
      refine V_ald0 dX5_leave_143 ?_
      refine V_getR dX5_leave_144 flX5_40 (hT.1 0 (0, 5) rfl) (show G r 0 9 = some (r, 10) from hT.2 9 (by decide) (by decide)) ?_
      refine V_ild2 dX5_leave_147 ?_
      refine V_iar dX5_leave_148 (hT.1 10 (1, 8) rfl) (by omega) (by decide) ?_
      refine V_ifne (tgt := 161) dX5_leave_149 (by decide) (fun c149 => ?_) (fun c149 => ?_)
      · skip
        refine V_ald0 dX5_leave_161 ?_
        refine V_getR dX5_leave_162 flX5_46 (hT.1 0 (0, 5) rfl) (show G r 0 11 = some (r, 12) from hT.2 11 (by decide) (by decide)) ?_
        refine V_ild2 dX5_leave_165 ?_
        refine V_iar dX5_leave_166 (hT.1 12 (1, 8) rfl) (by omega) (by decide) ?_
        refine V_iv2 dX5_leave_167 wlX5_85 mdX5_send miX5_send rfl (hT.1 0 (0, 5) rfl) rfl rfl (kX5_send hT (mb := mb) hmb hm6 ⟨rfl, ?_⟩)
        refine V_ald0 dX5_leave_170 ?_
        refine V_getR dX5_leave_171 flX5_52 (hT.1 0 (0, 5) rfl) (show G r 0 13 = some (r, 14) from hT.2 13 (by decide) (by decide)) ?_
        refine V_ild2 dX5_leave_174 ?_
        refine V_iar dX5_leave_175 (hT.1 14 (1, 8) rfl) (by omega) (by decide) ?_
        refine V_iconst (v := nI 2) dX5_leave_176 (by decide) ?_
        refine V_irem dX5_leave_177 (by decide) ?_
        refine V_ifne (tgt := 314) dX5_leave_178 (by decide) (fun c178 => ?_) (fun c178 => ?_)
        · skip
          refine V_return dX5_leave_314 rfl ?_
          rw [tL2, if_pos c53, if_neg (fun e => xne s74 e (by decide)), if_pos s74, if_neg c149, tLat, if_neg c178] at hQ
          exact hQ
        · skip
          refine V_ald0 dX5_leave_181 ?_
          refine V_ild2 dX5_leave_182 ?_
          refine V_iv1 dX5_leave_183 wlX5_88 mdX5_swing miX5_swing rfl (hT.1 0 (0, 5) rfl) rfl rfl (kX5_swing hT (by omega) ⟨rfl, ?_⟩)
          refine V_goto (tgt := 314) dX5_leave_186 (by decide) ?_
          refine V_return dX5_leave_314 rfl ?_
          rw [tL2, if_pos c53, if_neg (fun e => xne s74 e (by decide)), if_pos s74, if_neg c149, tLat, if_pos c178] at hQ
          exact hQ
      · skip
        refine V_ald0 dX5_leave_152 ?_
        refine V_getR dX5_leave_153 flX5_43 (hT.1 0 (0, 5) rfl) (show G r 0 10 = some (r, 11) from hT.2 10 (by decide) (by decide)) ?_
        refine V_ild2 dX5_leave_156 ?_
        refine V_iar dX5_leave_157 (hT.1 11 (1, 8) rfl) (by omega) (by decide) ?_
        refine V_goto (tgt := 167) dX5_leave_158 (by decide) ?_
        refine V_iv2 dX5_leave_167 wlX5_85 mdX5_send miX5_send rfl (hT.1 0 (0, 5) rfl) rfl rfl (kX5_send hT (mb := mb) hmb hm6 ⟨rfl, ?_⟩)
        refine V_ald0 dX5_leave_170 ?_
        refine V_getR dX5_leave_171 flX5_52 (hT.1 0 (0, 5) rfl) (show G r 0 13 = some (r, 14) from hT.2 13 (by decide) (by decide)) ?_
        refine V_ild2 dX5_leave_174 ?_
        refine V_iar dX5_leave_175 (hT.1 14 (1, 8) rfl) (by omega) (by decide) ?_
        refine V_iconst (v := nI 2) dX5_leave_176 (by decide) ?_
        refine V_irem dX5_leave_177 (by decide) ?_
        refine V_ifne (tgt := 314) dX5_leave_178 (by decide) (fun c178 => ?_) (fun c178 => ?_)
        · skip
          refine V_return dX5_leave_314 rfl ?_
          rw [tL2, if_pos c53, if_neg (fun e => xne s74 e (by decide)), if_pos s74, if_pos c149, tLat, if_neg c178] at hQ
          exact hQ
        · skip
          refine V_ald0 dX5_leave_181 ?_
          refine V_ild2 dX5_leave_182 ?_
          refine V_iv1 dX5_leave_183 wlX5_88 mdX5_swing miX5_swing rfl (hT.1 0 (0, 5) rfl) rfl rfl (kX5_swing hT (by omega) ⟨rfl, ?_⟩)
          refine V_goto (tgt := 314) dX5_leave_186 (by decide) ?_
          refine V_return dX5_leave_314 rfl ?_
          rw [tL2, if_pos c53, if_neg (fun e => xne s74 e (by decide)), if_pos s74, if_pos c149, tLat, if_pos c178] at hQ
          exact hQ
    · skip
      refine V_ald0 dX5_leave_189 ?_
      refine V_getR dX5_leave_190 flX5_49 (hT.1 0 (0, 5) rfl) (show G r 0 12 = some (r, 13) from hT.2 12 (by decide) (by decide)) ?_
      refine V_ild2 dX5_leave_193 ?_
      refine V_iar dX5_leave_194 (hT.1 13 (1, 8) rfl) (by omega) (by decide) ?_
      refine V_ldc dX5_leave_195 wkX5_64 ?_
      refine V_icmpne (tgt := 209) dX5_leave_197 (by decide) (fun c197 => ?_) (fun c197 => ?_)
      · skip
        refine V_ald0 dX5_leave_209 ?_
        refine V_ald0 dX5_leave_210 ?_
        refine V_getR dX5_leave_211 flX5_49 (hT.1 0 (0, 5) rfl) (show G r 0 12 = some (r, 13) from hT.2 12 (by decide) (by decide)) ?_
        refine V_ild2 dX5_leave_214 ?_
        refine V_iar dX5_leave_215 (hT.1 13 (1, 8) rfl) (by omega) (by decide) ?_
        refine V_ald0 dX5_leave_216 ?_
        refine V_getR dX5_leave_217 flX5_43 (hT.1 0 (0, 5) rfl) (show G r 0 10 = some (r, 11) from hT.2 10 (by decide) (by decide)) ?_
        refine V_ild2 dX5_leave_220 ?_
        refine V_iar dX5_leave_221 (hT.1 11 (1, 8) rfl) (by omega) (by decide) ?_
        refine V_iv2 dX5_leave_222 wlX5_85 mdX5_send miX5_send rfl (hT.1 0 (0, 5) rfl) rfl rfl (kX5_send hT (mb := mb) hmb hm6 ⟨rfl, ?_⟩)
        refine V_ald0 dX5_leave_225 ?_
        refine V_ild1 dX5_leave_226 ?_
        refine V_ald0 dX5_leave_227 ?_
        refine V_getR dX5_leave_228 flX5_46 (hT.1 0 (0, 5) rfl) (show G r 0 11 = some (r, 12) from hT.2 11 (by decide) (by decide)) ?_
        refine V_ild2 dX5_leave_231 ?_
        refine V_iar dX5_leave_232 (hT.1 12 (1, 8) rfl) (by omega) (by decide) ?_
        refine V_iv2 dX5_leave_233 wlX5_85 mdX5_send miX5_send rfl (hT.1 0 (0, 5) rfl) rfl rfl (kX5_send hT (mb := mb) (by rw [tSend_ne _ _ _ (by decide)]; exact hmb) hm6 ⟨rfl, ?_⟩)
        refine V_ald0 dX5_leave_236 ?_
        refine V_getR dX5_leave_237 flX5_49 (hT.1 0 (0, 5) rfl) (show G r 0 12 = some (r, 13) from hT.2 12 (by decide) (by decide)) ?_
        refine V_ild2 dX5_leave_240 ?_
        refine V_ldc dX5_leave_241 wkX5_64 ?_
        refine V_iasr dX5_leave_243 (hT.1 13 (1, 8) rfl) (by omega) (by decide) ?_
        refine V_goto (tgt := 314) dX5_leave_244 (by decide) ?_
        refine V_return dX5_leave_314 rfl ?_
        rw [tL2, if_pos c53, if_neg (fun e => xne s74 e (by decide)), if_neg (fun e => xne s74 e (by decide)), if_pos s74, if_neg c197, tRel, tRel2, tRel3] at hQ
        exact hQ
      · skip
        refine V_ald0 dX5_leave_200 ?_
        refine V_ild1 dX5_leave_201 ?_
        refine V_ild2 dX5_leave_202 ?_
        refine V_iv2 dX5_leave_203 wlX5_92 mdX5_hold miX5_hold rfl (hT.1 0 (0, 5) rfl) rfl rfl (kX5_hold hT (by omega) (by omega) ⟨rfl, ?_⟩)
        refine V_goto (tgt := 314) dX5_leave_206 (by decide) ?_
        refine V_return dX5_leave_314 rfl ?_
        rw [tL2, if_pos c53, if_neg (fun e => xne s74 e (by decide)), if_neg (fun e => xne s74 e (by decide)), if_pos s74, if_pos c197] at hQ
        exact hQ
    · skip
      refine V_ald0 dX5_leave_247 ?_
      refine V_ild1 dX5_leave_248 ?_
      refine V_ald0 dX5_leave_249 ?_
      refine V_getR dX5_leave_250 flX5_27 (hT.1 0 (0, 5) rfl) (show G r 0 5 = some (r, 6) from hT.2 5 (by decide) (by decide)) ?_
      refine V_ild1 dX5_leave_253 ?_
      refine V_iar dX5_leave_254 (hT.1 6 (1, 6) rfl) (by omega) (by decide) ?_
      refine V_ald0 dX5_leave_255 ?_
      refine V_getIr dX5_leave_256 flX5_9 (hT.1 0 (0, 5) rfl) ?_
      refine V_icmplt (tgt := 271) dX5_leave_259 (by decide) (fun c259 => ?_) (fun c259 => ?_)
      · skip
        refine V_ald0 dX5_leave_271 ?_
        refine V_getR dX5_leave_272 flX5_43 (hT.1 0 (0, 5) rfl) (show G r 0 10 = some (r, 11) from hT.2 10 (by decide) (by decide)) ?_
        refine V_ild2 dX5_leave_275 ?_
        refine V_iar dX5_leave_276 (hT.1 11 (1, 8) rfl) (by omega) (by decide) ?_
        refine V_iv2 dX5_leave_277 wlX5_85 mdX5_send miX5_send rfl (hT.1 0 (0, 5) rfl) rfl rfl (kX5_send hT (mb := mb) hmb hm6 ⟨rfl, ?_⟩)
        refine V_goto (tgt := 314) dX5_leave_280 (by decide) ?_
        refine V_return dX5_leave_314 rfl ?_
        rw [tL2, if_pos c53, if_neg (fun e => xne s74 e (by decide)), if_neg (fun e => xne s74 e (by decide)), if_neg (fun e => xne s74 e (by decide)), if_pos s74, if_pos c259] at hQ
        exact hQ
      · skip
        refine V_ald0 dX5_leave_262 ?_
        refine V_getR dX5_leave_263 flX5_46 (hT.1 0 (0, 5) rfl) (show G r 0 11 = some (r, 12) from hT.2 11 (by decide) (by decide)) ?_
        refine V_ild2 dX5_leave_266 ?_
        refine V_iar dX5_leave_267 (hT.1 12 (1, 8) rfl) (by omega) (by decide) ?_
        refine V_goto (tgt := 277) dX5_leave_268 (by decide) ?_
        refine V_iv2 dX5_leave_277 wlX5_85 mdX5_send miX5_send rfl (hT.1 0 (0, 5) rfl) rfl rfl (kX5_send hT (mb := mb) hmb hm6 ⟨rfl, ?_⟩)
        refine V_goto (tgt := 314) dX5_leave_280 (by decide) ?_
        refine V_return dX5_leave_314 rfl ?_
        rw [tL2, if_pos c53, if_neg (fun e => xne s74 e (by decide)), if_neg (fun e => xne s74 e (by decide)), if_neg (fun e => xne s74 e (by decide)), if_pos s74, if_neg c259] at hQ
        exact hQ
    · skip
      refine V_ald0 dX5_leave_283 ?_
      refine V_ild1 dX5_leave_284 ?_
      refine V_ald0 dX5_leave_285 ?_
      refine V_getR dX5_leave_286 flX5_55 (hT.1 0 (0, 5) rfl) (show G r 0 14 = some (r, 15) from hT.2 14 (by decide) (by decide)) ?_
      refine V_ild2 dX5_leave_289 ?_
      refine V_iar dX5_leave_290 (hT.1 15 (1, 8) rfl) (by omega) (by decide) ?_
      refine V_iconst (v := nI 2) dX5_leave_291 (by decide) ?_
      refine V_irem dX5_leave_292 (by decide) ?_
      refine V_ifne (tgt := 305) dX5_leave_293 (by decide) (fun c293 => ?_) (fun c293 => ?_)
      · skip
        refine V_ald0 dX5_leave_305 ?_
        refine V_getR dX5_leave_306 flX5_43 (hT.1 0 (0, 5) rfl) (show G r 0 10 = some (r, 11) from hT.2 10 (by decide) (by decide)) ?_
        refine V_ild2 dX5_leave_309 ?_
        refine V_iar dX5_leave_310 (hT.1 11 (1, 8) rfl) (by omega) (by decide) ?_
        refine V_iv2 dX5_leave_311 wlX5_85 mdX5_send miX5_send rfl (hT.1 0 (0, 5) rfl) rfl rfl (kX5_send hT (mb := mb) hmb hm6 ⟨rfl, ?_⟩)
        refine V_return dX5_leave_314 rfl ?_
        rw [tL2, if_pos c53, if_neg s74_0, if_neg s74_1, if_neg s74_2, if_neg s74_3, if_neg c293] at hQ
        exact hQ
      · skip
        refine V_ald0 dX5_leave_296 ?_
        refine V_getR dX5_leave_297 flX5_46 (hT.1 0 (0, 5) rfl) (show G r 0 11 = some (r, 12) from hT.2 11 (by decide) (by decide)) ?_
        refine V_ild2 dX5_leave_300 ?_
        refine V_iar dX5_leave_301 (hT.1 12 (1, 8) rfl) (by omega) (by decide) ?_
        refine V_goto (tgt := 311) dX5_leave_302 (by decide) ?_
        refine V_iv2 dX5_leave_311 wlX5_85 mdX5_send miX5_send rfl (hT.1 0 (0, 5) rfl) rfl rfl (kX5_send hT (mb := mb) hmb hm6 ⟨rfl, ?_⟩)
        refine V_return dX5_leave_314 rfl ?_
        rw [tL2, if_pos c53, if_neg s74_0, if_neg s74_1, if_neg s74_2, if_neg s74_3, if_pos c293] at hQ
        exact hQ
  · skip
    refine V_ald0 dX5_leave_56 ?_
    refine V_ild1 dX5_leave_57 ?_
    refine V_ald0 dX5_leave_58 ?_
    refine V_getR dX5_leave_59 flX5_43 (hT.1 0 (0, 5) rfl) (show G r 0 10 = some (r, 11) from hT.2 10 (by decide) (by decide)) ?_
    refine V_ild2 dX5_leave_62 ?_
    refine V_iar dX5_leave_63 (hT.1 11 (1, 8) rfl) (by omega) (by decide) ?_
    refine V_iv2 dX5_leave_64 wlX5_85 mdX5_send miX5_send rfl (hT.1 0 (0, 5) rfl) rfl rfl (kX5_send hT (mb := mb) hmb hm6 ⟨rfl, ?_⟩)
    refine V_return dX5_leave_67 rfl ?_
    rw [tL2, if_neg c53] at hQ
    exact hQ
def tIn1 (T : xT) (i : Nat) : xT := if T 8 i = nI 10 then (if T 0 1 < T 7 i then T else va_up T 8 (upd (T 8) i (nI 0))) else T
def tIn (T : xT) : Nat → xT
  | 0 => T
  | i + 1 => tIn1 (tIn T i) i
def tMov (T : xT) : Nat → Int32
  | 0 => nI 0
  | i + 1 => if tIn T (i + 1) 0 3 ≤ tIn T (i + 1) 8 i then tMov T i else tMov T i ||| (nI 1 <<< (nI i &&& 31))
theorem tIn1_ne (T : xT) (i : Nat) {c : Nat} (h : c ≠ 8) : tIn1 T i c = T c := by
  unfold tIn1
  split
  · split
    · rfl
    · exact va_up_no _ _ h
  · rfl
theorem tIn_ne (T : xT) {c : Nat} (h : c ≠ 8) : ∀ n, tIn T n c = T c
  | 0 => rfl
  | n + 1 => by rw [tIn, tIn1_ne _ _ h]; exact tIn_ne T h n
theorem kX5_letIn (hT : xTr Y G r) {mb : Nat} (hmb : T 0 2 = nI mb) (hm6 : mb ≤ 6) (hQ : Q (some (xI (tMov T mb))) Y G (va_up N r (tIn T mb))) : V RX5 false cX5_letIn 3 (some .int) none d b 0 [some (xR r 0), none, none] [] Y G (va_up N r T) Q := by
  refine V_iconst (v := nI 0) dX5_letIn_0 (by decide) ?_
  refine V_ist1 dX5_letIn_1 rfl ?_
  refine V_iconst (v := nI 0) dX5_letIn_2 (by decide) ?_
  refine V_ist2 dX5_letIn_3 rfl ?_
  refine xDown (P := fun i => V RX5 false cX5_letIn 3 (some .int) none d b 4 [some (xR r 0), some (xI (tMov T i)), some (xI (nI i))] [] Y G (va_up N r (tIn T i)) Q) mb ?_ 0 (Nat.zero_le _)
  intro i hii hni
  refine V_ild2 dX5_letIn_4 ?_
  refine V_ald0 dX5_letIn_5 ?_
  refine V_getIr dX5_letIn_6 flX5_18 (hT.1 0 (0, 5) rfl) ?_
  refine V_eqI (show tIn T i 0 2 = nI mb by rw [tIn_ne _ (by decide)]; exact hmb) ?_
  refine V_icmpgeN (tgt := 68) dX5_letIn_9 (by decide) (by omega) (by omega) (fun c9 => ?_) (fun c9 => ?_)
  · skip
    refine V_ild1 dX5_letIn_68 ?_
    refine V_ireturn dX5_letIn_69 ⟨_, rfl, vp_nar_int _⟩ ?_
    rw [show mb = i by omega] at hQ
    exact hQ
  · skip
    refine V_ald0 dX5_letIn_12 ?_
    refine V_getR dX5_letIn_13 flX5_34 (hT.1 0 (0, 5) rfl) (show G r 0 7 = some (r, 8) from hT.2 7 (by decide) (by decide)) ?_
    refine V_ild2 dX5_letIn_16 ?_
    refine V_iar dX5_letIn_17 (hT.1 8 (1, 6) rfl) (by omega) (by decide) ?_
    refine V_bipush (v := nI 10) dX5_letIn_18 (by decide) ?_
    refine V_icmpne (tgt := 43) dX5_letIn_20 (by decide) (fun c20 => ?_) (fun c20 => ?_)
    · skip
      refine V_eqN (N' := va_up N r (tIn T (i + 1))) (by rw [tIn, tIn1, if_neg c20]) ?_
      refine V_ald0 dX5_letIn_43 ?_
      refine V_getR dX5_letIn_44 flX5_34 (hT.1 0 (0, 5) rfl) (show G r 0 7 = some (r, 8) from hT.2 7 (by decide) (by decide)) ?_
      refine V_ild2 dX5_letIn_47 ?_
      refine V_iar dX5_letIn_48 (hT.1 8 (1, 6) rfl) (by omega) (by decide) ?_
      refine V_ald0 dX5_letIn_49 ?_
      refine V_getIr dX5_letIn_50 flX5_21 (hT.1 0 (0, 5) rfl) ?_
      refine V_icmpge (tgt := 62) dX5_letIn_53 (by decide) (fun c53 => ?_) (fun c53 => ?_)
      · skip
        refine V_incN2 dX5_letIn_62 rfl ?_
        refine V_goto (tgt := 4) dX5_letIn_65 (by decide) ?_
        have hni := hni (by omega)
        rw [tMov, if_pos c53] at hni
        exact hni
      · skip
        refine V_ild1 dX5_letIn_56 ?_
        refine V_iconst (v := nI 1) dX5_letIn_57 (by decide) ?_
        refine V_ild2 dX5_letIn_58 ?_
        refine V_ishl dX5_letIn_59 ?_
        refine V_ior dX5_letIn_60 ?_
        refine V_ist1 dX5_letIn_61 rfl ?_
        refine V_incN2 dX5_letIn_62 rfl ?_
        refine V_goto (tgt := 4) dX5_letIn_65 (by decide) ?_
        have hni := hni (by omega)
        rw [tMov, if_neg c53] at hni
        exact hni
    · skip
      refine V_ald0 dX5_letIn_23 ?_
      refine V_getR dX5_letIn_24 flX5_31 (hT.1 0 (0, 5) rfl) (show G r 0 6 = some (r, 7) from hT.2 6 (by decide) (by decide)) ?_
      refine V_ild2 dX5_letIn_27 ?_
      refine V_iar dX5_letIn_28 (hT.1 7 (1, 6) rfl) (by omega) (by decide) ?_
      refine V_ald0 dX5_letIn_29 ?_
      refine V_getIr dX5_letIn_30 flX5_15 (hT.1 0 (0, 5) rfl) ?_
      refine V_icmpgt (tgt := 43) dX5_letIn_33 (by decide) (fun c33 => ?_) (fun c33 => ?_)
      · skip
        refine V_eqN (N' := va_up N r (tIn T (i + 1))) (by rw [tIn, tIn1, if_pos c20, if_pos c33]) ?_
        refine V_ald0 dX5_letIn_43 ?_
        refine V_getR dX5_letIn_44 flX5_34 (hT.1 0 (0, 5) rfl) (show G r 0 7 = some (r, 8) from hT.2 7 (by decide) (by decide)) ?_
        refine V_ild2 dX5_letIn_47 ?_
        refine V_iar dX5_letIn_48 (hT.1 8 (1, 6) rfl) (by omega) (by decide) ?_
        refine V_ald0 dX5_letIn_49 ?_
        refine V_getIr dX5_letIn_50 flX5_21 (hT.1 0 (0, 5) rfl) ?_
        refine V_icmpge (tgt := 62) dX5_letIn_53 (by decide) (fun c53 => ?_) (fun c53 => ?_)
        · skip
          refine V_incN2 dX5_letIn_62 rfl ?_
          refine V_goto (tgt := 4) dX5_letIn_65 (by decide) ?_
          have hni := hni (by omega)
          rw [tMov, if_pos c53] at hni
          exact hni
        · skip
          refine V_ild1 dX5_letIn_56 ?_
          refine V_iconst (v := nI 1) dX5_letIn_57 (by decide) ?_
          refine V_ild2 dX5_letIn_58 ?_
          refine V_ishl dX5_letIn_59 ?_
          refine V_ior dX5_letIn_60 ?_
          refine V_ist1 dX5_letIn_61 rfl ?_
          refine V_incN2 dX5_letIn_62 rfl ?_
          refine V_goto (tgt := 4) dX5_letIn_65 (by decide) ?_
          have hni := hni (by omega)
          rw [tMov, if_neg c53] at hni
          exact hni
      · skip
        refine V_ald0 dX5_letIn_36 ?_
        refine V_getR dX5_letIn_37 flX5_34 (hT.1 0 (0, 5) rfl) (show G r 0 7 = some (r, 8) from hT.2 7 (by decide) (by decide)) ?_
        refine V_ild2 dX5_letIn_40 ?_
        refine V_iconst (v := nI 0) dX5_letIn_41 (by decide) ?_
        refine V_iasr dX5_letIn_42 (hT.1 8 (1, 6) rfl) (by omega) (by decide) ?_
        refine V_eqN (N' := va_up N r (tIn T (i + 1))) (by rw [tIn, tIn1, if_pos c20, if_neg c33]) ?_
        refine V_ald0 dX5_letIn_43 ?_
        refine V_getR dX5_letIn_44 flX5_34 (hT.1 0 (0, 5) rfl) (show G r 0 7 = some (r, 8) from hT.2 7 (by decide) (by decide)) ?_
        refine V_ild2 dX5_letIn_47 ?_
        refine V_iar dX5_letIn_48 (hT.1 8 (1, 6) rfl) (by omega) (by decide) ?_
        refine V_ald0 dX5_letIn_49 ?_
        refine V_getIr dX5_letIn_50 flX5_21 (hT.1 0 (0, 5) rfl) ?_
        refine V_icmpge (tgt := 62) dX5_letIn_53 (by decide) (fun c53 => ?_) (fun c53 => ?_)
        · skip
          refine V_incN2 dX5_letIn_62 rfl ?_
          refine V_goto (tgt := 4) dX5_letIn_65 (by decide) ?_
          have hni := hni (by omega)
          rw [tMov, if_pos c53] at hni
          exact hni
        · skip
          refine V_ild1 dX5_letIn_56 ?_
          refine V_iconst (v := nI 1) dX5_letIn_57 (by decide) ?_
          refine V_ild2 dX5_letIn_58 ?_
          refine V_ishl dX5_letIn_59 ?_
          refine V_ior dX5_letIn_60 ?_
          refine V_ist1 dX5_letIn_61 rfl ?_
          refine V_incN2 dX5_letIn_62 rfl ?_
          refine V_goto (tgt := 4) dX5_letIn_65 (by decide) ?_
          have hni := hni (by omega)
          rw [tMov, if_neg c53] at hni
          exact hni
def tGo1 (mv : Int32) (T : xT) (i : Nat) : xT := if (mv >>> (nI i &&& 31)) &&& nI 1 = 0 then T else tLeave T i (T 8 i).toNatClampNeg
def tGo (mv : Int32) (T : xT) : Nat → xT
  | 0 => T
  | i + 1 => tGo1 mv (tGo mv T i) i
def tTick (T : xT) : xT := va_up T 0 (upd (T 0) 1 (T 0 1 + nI 1))
def tPass (T : xT) (mb : Nat) : xT := tTick (tGo (tMov T mb) (tIn T mb) mb)
/-- whoever is to leave stands on a piece -/
def tSafe (T : xT) (mb : Nat) : Prop := ∀ i, i < mb → ¬ ((tMov T mb >>> (nI i &&& 31)) &&& nI 1 = 0) → ∃ p, p < 8 ∧ tGo (tMov T mb) (tIn T mb) i 8 i = nI p
theorem tGo1_0 (mv : Int32) (T : xT) (i : Nat) : tGo1 mv T i 0 = T 0 := by
  unfold tGo1
  split
  · rfl
  · exact tLeave_0 _ _ _
theorem tGo_0 (mv : Int32) (T : xT) : ∀ n, tGo mv T n 0 = T 0
  | 0 => rfl
  | n + 1 => by rw [tGo, tGo1_0]; exact tGo_0 mv T n
theorem kX5_pass (hT : xTr Y G r) {mb : Nat} (hmb : T 0 2 = nI mb) (hm6 : mb ≤ 6) (hs : tSafe T mb) (hQ : Q none Y G (va_up N r (tPass T mb))) : V RX5 false cX5_pass 3 none none (d + 2) b 0 [some (xR r 0), none, none] [] Y G (va_up N r T) Q := by
  refine V_ald0 dX5_pass_0 ?_
  refine V_iv0 dX5_pass_1 wlX5_71 mdX5_letIn miX5_letIn rfl (hT.1 0 (0, 5) rfl) rfl rfl (kX5_letIn hT hmb hm6 ⟨rfl, ?_⟩)
  refine V_ist1 dX5_pass_4 rfl ?_
  refine V_iconst (v := nI 0) dX5_pass_5 (by decide) ?_
  refine V_ist2 dX5_pass_6 rfl ?_
  refine xDown (P := fun i => V RX5 false cX5_pass 3 none none (d + 2) b 7 [some (xR r 0), some (xI (tMov T mb)), some (xI (nI i))] [] Y G (va_up N r (tGo (tMov T mb) (tIn T mb) i)) Q) mb ?_ 0 (Nat.zero_le _)
  intro i hii hni
  refine V_ild2 dX5_pass_7 ?_
  refine V_ald0 dX5_pass_8 ?_
  refine V_getIr dX5_pass_9 flX5_18 (hT.1 0 (0, 5) rfl) ?_
  refine V_eqI (show tGo (tMov T mb) (tIn T mb) i 0 2 = nI mb by rw [tGo_0, tIn_ne _ (by decide)]; exact hmb) ?_
  refine V_icmpgeN (tgt := 40) dX5_pass_12 (by decide) (by omega) (by omega) (fun c12 => ?_) (fun c12 => ?_)
  · skip
    refine V_ald0 dX5_pass_40 ?_
    refine V_dupR dX5_pass_41 ?_
    refine V_getIr dX5_pass_42 flX5_15 (hT.1 0 (0, 5) rfl) ?_
    refine V_iconst (v := nI 1) dX5_pass_45 (by decide) ?_
    refine V_iadd dX5_pass_46 ?_
    refine V_putIr dX5_pass_47 fwX5_15 (hT.1 0 (0, 5) rfl) ?_
    refine V_return dX5_pass_50 rfl ?_
    rw [tPass, show mb = i by omega] at hQ
    rw [show mb = i by omega]
    exact hQ
  · skip
    refine V_ild1 dX5_pass_15 ?_
    refine V_ild2 dX5_pass_16 ?_
    refine V_ishr dX5_pass_17 ?_
    refine V_iconst (v := nI 1) dX5_pass_18 (by decide) ?_
    refine V_iand dX5_pass_19 ?_
    refine V_ifeq (tgt := 34) dX5_pass_20 (by decide) (fun c20 => ?_) (fun c20 => ?_)
    · skip
      refine V_incN2 dX5_pass_34 rfl ?_
      refine V_goto (tgt := 7) dX5_pass_37 (by decide) ?_
      have hni := hni (by omega)
      rw [tGo, tGo1, if_pos c20] at hni
      exact hni
    · skip
      obtain ⟨p, hp, ep⟩ := hs i (by omega) c20
      refine V_ald0 dX5_pass_23 ?_
      refine V_ild2 dX5_pass_24 ?_
      refine V_ald0 dX5_pass_25 ?_
      refine V_getR dX5_pass_26 flX5_34 (hT.1 0 (0, 5) rfl) (show G r 0 7 = some (r, 8) from hT.2 7 (by decide) (by decide)) ?_
      refine V_ild2 dX5_pass_29 ?_
      refine V_iar dX5_pass_30 (hT.1 8 (1, 6) rfl) (by omega) (by decide) ?_
      refine V_eqI ep ?_
      refine V_iv2 dX5_pass_31 wlX5_75 mdX5_leave miX5_leave rfl (hT.1 0 (0, 5) rfl) rfl rfl (kX5_leave hT (mb := mb) (by rw [tGo_0, tIn_ne _ (by decide)]; exact hmb) hm6 (by omega) hp ⟨rfl, ?_⟩)
      refine V_incN2 dX5_pass_34 rfl ?_
      refine V_goto (tgt := 7) dX5_pass_37 (by decide) ?_
      have hni := hni (by omega)
      rw [tGo, tGo1, if_neg c20] at hni
      rw [ep, nI_clamp (by omega)] at hni
      exact hni
end KT
