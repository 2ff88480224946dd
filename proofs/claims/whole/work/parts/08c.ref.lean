theorem va_upup {α : Type} (f : Nat → α) (k : Nat) (x y : α) : va_up (va_up f k x) k y = va_up f k y := by
  funext j
  by_cases e : j = k
  · rw [e, va_up_eq, va_up_eq]
  · rw [va_up_no _ _ e, va_up_no _ _ e, va_up_no _ _ e]
theorem and1b (x : Int32) : x &&& nI 1 = 0 ∨ x &&& nI 1 = nI 1 := by
  have h : (x &&& nI 1).toBitVec = x.toBitVec &&& 1#32 := Int32.toBitVec_and _ _
  have h2 : (x.toBitVec &&& 1#32).toNat = x.toBitVec.toNat % 2 := by
    rw [BitVec.toNat_and]
    exact Nat.and_one_is_mod _
  rcases Nat.mod_two_eq_zero_or_one x.toBitVec.toNat with e | e
  · left
    apply Int32.toBitVec_inj.mp
    apply BitVec.eq_of_toNat_eq
    rw [h, h2, e]; rfl
  · right
    apply Int32.toBitVec_inj.mp
    apply BitVec.eq_of_toNat_eq
    rw [h, h2, e]; rfl
theorem upd_me (f : Nat → Int32) (k : Nat) : upd f k (f k) = f := by
  funext j
  by_cases e : j = k
  · rw [e, upd_eq]
  · rw [upd_no _ _ e]
theorem xor_z (x : Int32) : x ^^^ 0 = x := by
  apply Int32.toBitVec_inj.mp
  rw [Int32.toBitVec_xor]
  show x.toBitVec ^^^ 0#32 = x.toBitVec
  simp
theorem tips_sim {mb pn : Nat} {T : xT} {o so f : Nat → Int32} (h : Sim mb pn T o so f) (hk : tOK mb pn T) (s : Int32) : ∀ n, n ≤ pn → Sim mb pn (tSwAll T s n) o so (rTipN f s n)
  | 0, _ => h
  | n + 1, hn => by
    have ih := tips_sim h hk s n (by omega)
    have hk' := hk.swAll s n (by omega)
    rw [tSwAll, rTipN]
    rcases and1b (s >>> (nI n &&& 31)) with e | e
    · rw [if_pos e, e, xor_z, upd_me]; exact ih
    · rw [if_neg (by rw [e]; decide), e]
      have e10 : tSwAll T s n 10 n = rTipN f s n (1 + n) := ih.1.p (c := 10) rfl (by omega)
      have := ih.swing hk' (p := n) (by omega)
      rw [show rTipN f s n (1 + n) ^^^ nI 1 = nI 1 - rTipN f s n (1 + n) by
        rw [← e10]
        rcases hk'.po n (by omega) with q | q <;> rw [q] <;> decide]
      exact this
theorem rOK.tip {o so : Nat → Int32} {mb pn : Nat} {f : Nat → Int32} (h : rOK o so mb pn f) (s : Int32) : rOK o so mb pn (rTipN f s pn) := h.elim fun T hT => ⟨_, hT.1.swAll s pn (Nat.le_refl _), tips_sim hT.2 hT.1 s pn (Nat.le_refl _)⟩
theorem rOK.lead {o so : Nat → Int32} {mb pn : Nat} {f : Nat → Int32} (h : rOK o so mb pn f) {p q : Nat} (hp : p < pn) (h1 : p < q) (h2 : q ≤ 9) : rOK o so mb pn (upd f (17 + p) (nI q)) := h.elim fun T hT => ⟨_, hT.1.right (p := p) h1 h2, hT.2.put hT.1.mb hT.1.pn (c := 12) (Or.inr ⟨rfl, hp⟩) _⟩
theorem rOK.wt {o so : Nat → Int32} {mb pn : Nat} {f : Nat → Int32} (h : rOK o so mb pn f) {m : Nat} (hm : m < mb) (v : Int32) : rOK o so mb pn (upd f (55 + m) v) := h.elim fun T hT => ⟨_, hT.1.c6 m v, hT.2.put hT.1.mb hT.1.pn (c := 6) (Or.inl ⟨rfl, hm⟩) _⟩
theorem rOK.pt {o so : Nat → Int32} {mb pn : Nat} {f : Nat → Int32} (h : rOK o so mb pn f) {p v : Nat} (hp : p < pn) (hv : v ≤ 1) : rOK o so mb pn (upd f (1 + p) (nI v)) := h.elim fun T hT => ⟨_, hT.1.c10 (k := p) hv, hT.2.put hT.1.mb hT.1.pn (c := 10) (Or.inr ⟨rfl, hp⟩) _⟩
def rWh (o so : Nat → Int32) (mb m : Nat) : Nat → Nat → (Nat → Int32) → Int32
  | 0, _, _ => -1000000
  | k + 1, t, f => if rInTray f m then nI t else rWh o so mb m k (t + 1) (rTick o so mb f)
def rRs (o so : Nat → Int32) (mb : Nat) : Nat → Nat → (Nat → Int32) → Int32
  | 0, _, _ => -1000000
  | k + 1, t, f => if rThose f (nI 0) (nI 7) mb ||| rThose f (nI 10) (nI 10) mb = 0 then nI t else rRs o so mb k (t + 1) (rTick o so mb f)
abbrev rPref (m c k v : Int32) : Prop := m < v ∨ (v = m ∧ rBits k 8 < rBits c 8)
def rTp (v : Nat → Int32) : Nat → Int32 × Nat
  | 0 => (-1, 0)
  | i + 1 => if rPref (rTp v i).1 (nI (rTp v i).2) (nI i) (v i) then (v i, i) else rTp v i
def rLd (v : Nat → Int32) (p : Nat) : Nat → Int32 × Nat
  | 0 => (-1, 0)
  | i + 1 => if (rLd v p i).1 < v (p + 1 + i) then (v (p + 1 + i), p + 1 + i) else rLd v p i
section KM
variable {d : Nat} {b : Nat × Nat} {Y : xY} {G : xG} {N : xM} {S : xT} {f : Nat → Int32} {Q : Option xAV → xY → xG → xM → Prop} {c : Nat}
theorem V_uu {own : String} {ini : Bool} {cc : ByteArray} {nL : Nat} {ret : Option FieldType} {X : Option (Nat × (Nat → Int32))} {pc : Nat} {loc : List (Option xAV)} {st : List xAV} {r k : Nat} {v : Int32} (h : V own ini cc nL ret X d b pc loc st Y G (va_up N r (va_up S c (upd f k v))) Q) : V own ini cc nL ret X d b pc loc st Y G (va_up N r (va_up (va_up S c f) c (upd (va_up S c f c) k v))) Q := by
  rw [va_up_eq, va_upup]; exact h
theorem xWhen (hM : xMo Y G) {mb pn m : Nat} (hm : m < mb) (hkf : rOK (S 0) (S 11) mb pn f) (hQ : ∀ f2, Q (some (xI (rWh (S 0) (S 11) mb m 61 0 f))) Y G (va_up N 40 (va_up S 19 f2))) : V RX7 false cX7_when 3 (some .int) none (d + 4) b 17 [some (xR 40 0), some (xI (nI m)), some (xI (nI 0))] [] Y G (va_up N 40 (va_up S 19 f)) Q := by
  have hmb := hkf.mb
  refine xDown (P := fun i => ∀ f, rOK (S 0) (S 11) mb pn f → (∀ f2, Q (some (xI (rWh (S 0) (S 11) mb m (61 - i) i f))) Y G (va_up N 40 (va_up S 19 f2))) → V RX7 false cX7_when 3 (some .int) none (d + 4) b 17 [some (xR 40 0), some (xI (nI m)), some (xI (nI i))] [] Y G (va_up N 40 (va_up S 19 f)) Q) 61 ?_ 0 (Nat.zero_le _) f hkf hQ 
  intro i hii hni f hkf hq
  refine V_ild2 dX7_when_17 ?_
  refine V_bipush (v := nI 60) dX7_when_18 (by decide) ?_
  refine V_icmpgtN (tgt := 48) dX7_when_20 (by decide) (by omega) (by omega) (fun c20 => ?_) (fun c20 => ?_)
  · skip
    refine V_ldc dX7_when_48 wkX7_135 ?_
    refine V_ireturn dX7_when_50 ⟨_, rfl, vp_nar_int _⟩ ?_
    rw [show 61 - i = 0 by omega, rWh] at hq
    exact hq _
  · skip
    refine V_ald0 dX7_when_23 ?_
    refine V_ald0 dX7_when_24 ?_
    refine V_getR dX7_when_25 flX7_41 (hM.1 0 (0, 7) rfl) (show G 40 0 18 = some (40, 19) from hM.2 18 (1, 67) rfl) ?_
    refine V_ild1 dX7_when_28 ?_
    refine V_iv2 dX7_when_29 wlX7_195 mdX7_isInTray miX7_isInTray rfl (hM.1 0 (0, 7) rfl) rfl rfl (kX7_isInTray (hM.1 19 (1, 67) rfl) (by omega) ⟨rfl, ?_⟩)
    refine V_ifeqB (tgt := 37) dX7_when_32 (by decide) (fun c32 => ?_) (fun c32 => ?_)
    · skip
      refine V_ald0 dX7_when_37 ?_
      refine V_iconst (v := nI 1) dX7_when_38 (by decide) ?_
      refine V_iv1 dX7_when_39 wlX7_205 mdX7_goes miX7_goes rfl (hM.1 0 (0, 7) rfl) rfl rfl (kX7_goes (n := 1) hM hkf (by decide) ⟨rfl, ?_⟩)
      refine V_incN2 dX7_when_42 rfl ?_
      refine V_goto (tgt := 17) dX7_when_45 (by decide) ?_
      rw [show 61 - i = 61 - (i + 1) + 1 by omega, rWh, if_neg c32] at hq
      exact hni (by omega) _ hkf.tick hq
    · skip
      refine V_ild2 dX7_when_35 ?_
      refine V_ireturn dX7_when_36 ⟨_, rfl, vp_nar_int _⟩ ?_
      rw [show 61 - i = 61 - (i + 1) + 1 by omega, rWh, if_pos c32] at hq
      exact hq _
theorem kX7_when (hM : xMo Y G) {mb pn : Nat} (hr : rSt S mb pn) {a v : Int32} (hv : ∀ m, a = nI m → m < mb → ∀ f, ag f (S 13) → rWh (S 0) (S 11) mb m 61 0 f = v) (hQ : ∀ S2, rKeep S S2 → Q (some (xI (if rIn a (nI 0) (nI mb - nI 1) then v else -1000001))) Y G (va_up N 40 S2)) : V RX7 false cX7_when 3 (some .int) none (d + 4) b 0 [some (xR 40 0), some (xI a), none] [] Y G (va_up N 40 S) Q := by
  refine V_ald0 dX7_when_0 ?_
  refine V_ild1 dX7_when_1 ?_
  refine V_iv1 dX7_when_2 wlX7_192 mdX7_isMarble miX7_isMarble rfl (hM.1 0 (0, 7) rfl) rfl rfl (kX7_isMarble hM ⟨rfl, ?_⟩)
  rw [hr.1]
  refine V_ifneB (tgt := 11) dX7_when_5 (by decide) (fun c5 => ?_) (fun c5 => ?_)
  · skip
    obtain ⟨m, hm, rfl⟩ := rIn_m c5 (by have := hr.b6; omega)
    have hk := hr.okm hm
    refine V_ald0 dX7_when_11 ?_
    refine V_iv0 dX7_when_12 wlX7_202 mdX7_asItIs miX7_asItIs rfl (hM.1 0 (0, 7) rfl) rfl rfl (kX7_asItIs hM (fun f hf => ⟨rfl, ?_⟩))
    have hkf := hk.ag hf
    refine V_iconst (v := nI 0) dX7_when_15 (by decide) ?_
    refine V_ist2 dX7_when_16 rfl ?_
    refine xWhen hM hm hkf (fun f2 => ?_)
    have hq := hQ _ (rKeep.n S f2)
    rw [if_pos c5, ← hv m rfl hm f hf] at hq
    exact hq
  · skip
    refine V_ldc dX7_when_8 wkX7_84 ?_
    refine V_ireturn dX7_when_10 ⟨_, rfl, vp_nar_int _⟩ ?_
    have hq := hQ S (rKeep.rf S)
    rw [if_neg c5] at hq
    exact hq
theorem xRest (hM : xMo Y G) {mb pn : Nat} (hkf : rOK (S 0) (S 11) mb pn f) (hQ : ∀ f2, Q (some (xI (rRs (S 0) (S 11) mb 61 0 f))) Y G (va_up N 40 (va_up S 19 f2))) : V RX7 false cX7_rest 2 (some .int) none (d + 4) b 16 [some (xR 40 0), some (xI (nI 0))] [] Y G (va_up N 40 (va_up S 19 f)) Q := by
  refine xDown (P := fun i => ∀ f, rOK (S 0) (S 11) mb pn f → (∀ f2, Q (some (xI (rRs (S 0) (S 11) mb (61 - i) i f))) Y G (va_up N 40 (va_up S 19 f2))) → V RX7 false cX7_rest 2 (some .int) none (d + 4) b 16 [some (xR 40 0), some (xI (nI i))] [] Y G (va_up N 40 (va_up S 19 f)) Q) 61 ?_ 0 (Nat.zero_le _) f hkf hQ 
  intro i hii hni f hkf hq
  refine V_ild1 dX7_rest_16 ?_
  refine V_bipush (v := nI 60) dX7_rest_17 (by decide) ?_
  refine V_icmpgtN (tgt := 62) dX7_rest_19 (by decide) (by omega) (by omega) (fun c19 => ?_) (fun c19 => ?_)
  · skip
    refine V_ldc dX7_rest_62 wkX7_135 ?_
    refine V_ireturn dX7_rest_64 ⟨_, rfl, vp_nar_int _⟩ ?_
    rw [show 61 - i = 0 by omega, rRs] at hq
    exact hq _
  · skip
    refine V_ald0 dX7_rest_22 ?_
    refine V_ald0 dX7_rest_23 ?_
    refine V_getR dX7_rest_24 flX7_41 (hM.1 0 (0, 7) rfl) (show G 40 0 18 = some (40, 19) from hM.2 18 (1, 67) rfl) ?_
    refine V_iconst (v := nI 0) dX7_rest_27 (by decide) ?_
    refine V_bipush (v := nI 7) dX7_rest_28 (by decide) ?_
    refine V_iv3 dX7_rest_30 wlX7_185 mdX7_those miX7_those rfl (hM.1 0 (0, 7) rfl) rfl rfl (kX7_those hM (by decide) (hM.1 19 (1, 67) rfl) hkf.e8 hkf.mb ⟨rfl, ?_⟩)
    refine V_ald0 dX7_rest_33 ?_
    refine V_ald0 dX7_rest_34 ?_
    refine V_getR dX7_rest_35 flX7_41 (hM.1 0 (0, 7) rfl) (show G 40 0 18 = some (40, 19) from hM.2 18 (1, 67) rfl) ?_
    refine V_bipush (v := nI 10) dX7_rest_38 (by decide) ?_
    refine V_bipush (v := nI 10) dX7_rest_40 (by decide) ?_
    refine V_iv3 dX7_rest_42 wlX7_185 mdX7_those miX7_those rfl (hM.1 0 (0, 7) rfl) rfl rfl (kX7_those hM (by decide) (hM.1 19 (1, 67) rfl) hkf.e8 hkf.mb ⟨rfl, ?_⟩)
    refine V_ior dX7_rest_45 ?_
    refine V_ifne (tgt := 51) dX7_rest_46 (by decide) (fun c46 => ?_) (fun c46 => ?_)
    · skip
      refine V_ald0 dX7_rest_51 ?_
      refine V_iconst (v := nI 1) dX7_rest_52 (by decide) ?_
      refine V_iv1 dX7_rest_53 wlX7_205 mdX7_goes miX7_goes rfl (hM.1 0 (0, 7) rfl) rfl rfl (kX7_goes (n := 1) hM hkf (by decide) ⟨rfl, ?_⟩)
      refine V_incN1 dX7_rest_56 rfl ?_
      refine V_goto (tgt := 16) dX7_rest_59 (by decide) ?_
      rw [show 61 - i = 61 - (i + 1) + 1 by omega, rRs, if_neg c46] at hq
      exact hni (by omega) _ hkf.tick hq
    · skip
      refine V_ild1 dX7_rest_49 ?_
      refine V_ireturn dX7_rest_50 ⟨_, rfl, vp_nar_int _⟩ ?_
      rw [show 61 - i = 61 - (i + 1) + 1 by omega, rRs, if_pos c46] at hq
      exact hq _
theorem kX7_rest (hM : xMo Y G) {mb pn : Nat} (hr : rSt S mb pn) {v : Int32} (hv : 1 ≤ mb → rOK (S 0) (S 11) mb pn (S 13) → ∀ f, ag f (S 13) → rRs (S 0) (S 11) mb 61 0 f = v) (hQ : ∀ S2, rKeep S S2 → Q (some (xI (if nI pn = 0 then -1000002 else v))) Y G (va_up N 40 S2)) : V RX7 false cX7_rest 2 (some .int) none (d + 4) b 0 [some (xR 40 0), none] [] Y G (va_up N 40 S) Q := by
  refine V_ald0 dX7_rest_0 ?_
  refine V_iv0 dX7_rest_1 wlX7_174 mdX7_isNone miX7_isNone rfl (hM.1 0 (0, 7) rfl) rfl rfl (kX7_isNone hM ⟨rfl, ?_⟩)
  rw [hr.2.1]
  refine V_ifeqB (tgt := 10) dX7_rest_4 (by decide) (fun c4 => ?_) (fun c4 => ?_)
  · skip
    have hk := (hr.ok0 c4).2
    refine V_ald0 dX7_rest_10 ?_
    refine V_iv0 dX7_rest_11 wlX7_202 mdX7_asItIs miX7_asItIs rfl (hM.1 0 (0, 7) rfl) rfl rfl (kX7_asItIs hM (fun f hf => ⟨rfl, ?_⟩))
    have hkf := hk.ag hf
    refine V_iconst (v := nI 0) dX7_rest_14 (by decide) ?_
    refine V_ist1 dX7_rest_15 rfl ?_
    refine xRest hM hkf (fun f2 => ?_)
    have hq := hQ _ (rKeep.n S f2)
    rw [if_neg c4, ← hv (hr.ok0 c4).1 hk f hf] at hq
    exact hq
  · skip
    refine V_ldc dX7_rest_7 wkX7_173 ?_
    refine V_ireturn dX7_rest_9 ⟨_, rfl, vp_nar_int _⟩ ?_
    have hq := hQ S (rKeep.rf S)
    rw [if_pos c4] at hq
    exact hq
theorem rOK.up19 {S : xT} {f : Nat → Int32} {mb pn : Nat} (h : rOK (S 0) (S 11) mb pn (S 13)) : rOK (va_up S 19 f 0) (va_up S 19 f 11) mb pn (va_up S 19 f 13) := h
theorem kX7_tips (hM : xMo Y G) {mb pn : Nat} (hr : rSt S mb pn) {z y : Int32} {v : Nat → Int32} (hv : ∀ n, z = nI n → n ≤ 40 → 1 ≤ mb → rOK (S 0) (S 11) mb pn (S 13) → ∀ k, k < 2 ^ pn → ∀ f, ag f (S 13) → rBits (rThose (rGo (S 0) (S 11) mb n (rTipN f (nI k) pn)) (nI 9) (nI 9) mb) 8 = v k) (hQ : ∀ S2, rKeep S S2 → Q (some (xI (if nI pn = 0 then -1000002 else if rIn z (nI 1) (nI 40) ∧ rIn y (nI 0) (nI 1) then (if y = 0 then nI (rTp v (2 ^ pn)).2 else (rTp v (2 ^ pn)).1) else -1000001))) Y G (va_up N 40 S2)) : V RX7 false cX7_tips 7 (some .int) none (d + 4) b 0 [some (xR 40 0), some (xI z), some (xI y), none, none, none, none] [] Y G (va_up N 40 S) Q := by
  refine V_ald0 dX7_tips_0 ?_
  refine V_iv0 dX7_tips_1 wlX7_174 mdX7_isNone miX7_isNone rfl (hM.1 0 (0, 7) rfl) rfl rfl (kX7_isNone hM ⟨rfl, ?_⟩)
  rw [hr.2.1]
  refine V_ifeqB (tgt := 10) dX7_tips_4 (by decide) (fun c4 => ?_) (fun c4 => ?_)
  · skip
    refine V_ild1 dX7_tips_10 ?_
    refine V_iconst (v := nI 1) dX7_tips_11 (by decide) ?_
    refine V_bipush (v := nI 40) dX7_tips_12 (by decide) ?_
    refine V_is3 dX7_tips_14 wlX7_70 mdX7_in msX7_in rfl rfl (kX7_in ⟨rfl, ?_⟩)
    refine V_ifeqB (tgt := 29) dX7_tips_17 (by decide) (fun c17 => ?_) (fun c17 => ?_)
    · skip
      refine V_ldc dX7_tips_29 wkX7_84 ?_
      refine V_ireturn dX7_tips_31 ⟨_, rfl, vp_nar_int _⟩ ?_
      have hq := hQ S (rKeep.rf S)
      rw [if_neg c4, if_neg (fun h => c17 h.1)] at hq
      exact hq
    · skip
      refine V_ild2 dX7_tips_20 ?_
      refine V_iconst (v := nI 0) dX7_tips_21 (by decide) ?_
      refine V_iconst (v := nI 1) dX7_tips_22 (by decide) ?_
      refine V_is3 dX7_tips_23 wlX7_70 mdX7_in msX7_in rfl rfl (kX7_in ⟨rfl, ?_⟩)
      refine V_ifneB (tgt := 32) dX7_tips_26 (by decide) (fun c26 => ?_) (fun c26 => ?_)
      · skip
        obtain ⟨n, hn0, hn1, rfl⟩ := rIn_k c17 (by decide) (by decide)
        obtain ⟨hm1, hk⟩ := hr.ok0 c4
        have hpn := hk.pn
        have hv := hv n rfl hn1 hm1 hk
        have hK2 : 2 ^ pn ≤ 256 := Nat.pow_le_pow_right (n := 2) (by decide) hpn
        obtain ⟨K, hK⟩ : ∃ K, K = 2 ^ pn := ⟨_, rfl⟩
        rw [← hK] at hK2 hv
        refine V_iconst (v := nI 0) dX7_tips_32 (by decide) ?_
        refine V_ist3 dX7_tips_33 rfl ?_
        refine V_iconst (v := (-1)) dX7_tips_34 (by decide) ?_
        refine V_ist4 dX7_tips_35 rfl ?_
        refine V_iconst (v := nI 0) dX7_tips_37 (by decide) ?_
        refine V_ist5 dX7_tips_38 rfl ?_
        refine xDown (P := fun i => ∀ S2, S2 0 = S 0 → S2 11 = S 11 → S2 13 = S 13 → rKeep S S2 → rOK (S2 0) (S2 11) mb pn (S2 13) → ∀ l6, V RX7 false cX7_tips 7 (some .int) none (d + 4) b 40 [some (xR 40 0), some (xI (nI n)), some (xI y), some (xI (nI (rTp v i).2)), some (xI (rTp v i).1), some (xI (nI i)), l6] [] Y G (va_up N 40 S2) Q) K ?_ 0 (Nat.zero_le _) S rfl rfl rfl (rKeep.rf S) hk none 
        intro i hii hni S2 e0 e11 e13 hkeep hk2 l6
        refine V_ild5 dX7_tips_40 ?_
        refine V_iconst (v := nI 1) dX7_tips_42 (by decide) ?_
        refine V_ald0 dX7_tips_43 ?_
        refine V_getIr dX7_tips_44 flX7_77 (hM.1 0 (0, 7) rfl) ?_
        refine V_eqI hk2.e9 ?_
        refine V_ishl dX7_tips_47 ?_
        rw [nI_1shl (by omega), ← hK]
        refine V_icmpgeN (tgt := 114) dX7_tips_48 (by decide) (by omega) (by omega) (fun c48 => ?_) (fun c48 => ?_)
        · skip
          refine V_ild2 dX7_tips_114 ?_
          refine V_ifne (tgt := 122) dX7_tips_115 (by decide) (fun c115 => ?_) (fun c115 => ?_)
          · skip
            refine V_ild4 dX7_tips_122 ?_
            refine V_ireturn dX7_tips_124 ⟨_, rfl, vp_nar_int _⟩ ?_
            have hq := hQ _ hkeep
            rw [if_neg c4, if_pos ⟨c17, c26⟩, if_neg c115, ← hK] at hq
            rw [show i = K by omega]
            exact hq
          · skip
            refine V_ild3 dX7_tips_118 ?_
            refine V_goto (tgt := 124) dX7_tips_119 (by decide) ?_
            refine V_ireturn dX7_tips_124 ⟨_, rfl, vp_nar_int _⟩ ?_
            have hq := hQ _ hkeep
            rw [if_neg c4, if_pos ⟨c17, c26⟩, if_pos c115, ← hK] at hq
            rw [show i = K by omega]
            exact hq
        · skip
          refine V_ald0 dX7_tips_51 ?_
          refine V_iv0 dX7_tips_52 wlX7_202 mdX7_asItIs miX7_asItIs rfl (hM.1 0 (0, 7) rfl) rfl rfl (kX7_asItIs hM (fun f hf => ⟨rfl, ?_⟩))
          refine V_ald0 dX7_tips_55 ?_
          refine V_ild5 dX7_tips_56 ?_
          refine V_iv1 dX7_tips_58 wlX7_214 mdX7_tipsNow miX7_tipsNow rfl (hM.1 0 (0, 7) rfl) rfl rfl (kX7_tipsNow hM hk2.e9 hk2.pn ⟨rfl, ?_⟩)
          refine V_ald0 dX7_tips_61 ?_
          refine V_ild1 dX7_tips_62 ?_
          refine V_iv1 dX7_tips_63 wlX7_205 mdX7_goes miX7_goes rfl (hM.1 0 (0, 7) rfl) rfl rfl (kX7_goes hM ((hk2.ag hf).tip (nI i)) (by omega) ⟨rfl, ?_⟩)
          refine V_ald0 dX7_tips_66 ?_
          refine V_iv0 dX7_tips_67 wlX7_211 mdX7_rightOf miX7_rightOf rfl (hM.1 0 (0, 7) rfl) rfl rfl (kX7_rightOf hM (((hk2.ag hf).tip (nI i)).go n) ⟨rfl, ?_⟩)
          refine V_is1 dX7_tips_70 wlX7_217 mdX7_bits msX7_bits rfl rfl (kX7_bits ⟨rfl, ?_⟩)
          rw [show S2 0 = S 0 by exact e0, show S2 11 = S 11 by exact e11, hv i (by omega) f (fun j hj => (hf j hj).trans (by rw [e13]))]
          refine V_ist6 dX7_tips_73 rfl ?_
          refine V_ild6 dX7_tips_75 ?_
          refine V_ild4 dX7_tips_77 ?_
          refine V_icmpgt (tgt := 101) dX7_tips_79 (by decide) (fun c79 => ?_) (fun c79 => ?_)
          · skip
            refine V_ild6 dX7_tips_101 ?_
            refine V_ist4 dX7_tips_103 rfl ?_
            refine V_ild5 dX7_tips_105 ?_
            refine V_ist3 dX7_tips_107 rfl ?_
            refine V_incN5 dX7_tips_108 rfl ?_
            refine V_goto (tgt := 40) dX7_tips_111 (by decide) ?_
            have hq := fun g => hni (by omega) (va_up S2 19 g) e0 e11 e13 (hkeep.n2 _) hk2.up19
            rw [rTp, if_pos (Or.inl c79)] at hq
            exact hq _ _
          · skip
            refine V_ild6 dX7_tips_82 ?_
            refine V_ild4 dX7_tips_84 ?_
            refine V_icmpne (tgt := 108) dX7_tips_86 (by decide) (fun c86 => ?_) (fun c86 => ?_)
            · skip
              refine V_incN5 dX7_tips_108 rfl ?_
              refine V_goto (tgt := 40) dX7_tips_111 (by decide) ?_
              have hq := fun g => hni (by omega) (va_up S2 19 g) e0 e11 e13 (hkeep.n2 _) hk2.up19
              rw [rTp, if_neg (fun h => h.elim c79 (fun h => c86 h.1))] at hq
              exact hq _ _
            · skip
              refine V_ild5 dX7_tips_89 ?_
              refine V_is1 dX7_tips_91 wlX7_217 mdX7_bits msX7_bits rfl rfl (kX7_bits ⟨rfl, ?_⟩)
              refine V_ild3 dX7_tips_94 ?_
              refine V_is1 dX7_tips_95 wlX7_217 mdX7_bits msX7_bits rfl rfl (kX7_bits ⟨rfl, ?_⟩)
              refine V_icmpge (tgt := 108) dX7_tips_98 (by decide) (fun c98 => ?_) (fun c98 => ?_)
              · skip
                refine V_incN5 dX7_tips_108 rfl ?_
                refine V_goto (tgt := 40) dX7_tips_111 (by decide) ?_
                have hq := fun g => hni (by omega) (va_up S2 19 g) e0 e11 e13 (hkeep.n2 _) hk2.up19
                rw [rTp, if_neg (fun h => h.elim c79 (fun h => absurd c98 (Int32.not_le.mpr h.2)))] at hq
                exact hq _ _
              · skip
                refine V_ild6 dX7_tips_101 ?_
                refine V_ist4 dX7_tips_103 rfl ?_
                refine V_ild5 dX7_tips_105 ?_
                refine V_ist3 dX7_tips_107 rfl ?_
                refine V_incN5 dX7_tips_108 rfl ?_
                refine V_goto (tgt := 40) dX7_tips_111 (by decide) ?_
                have hq := fun g => hni (by omega) (va_up S2 19 g) e0 e11 e13 (hkeep.n2 _) hk2.up19
                rw [rTp, if_pos (Or.inr ⟨c86, Int32.not_le.mp c98⟩)] at hq
                exact hq _ _
      · skip
        refine V_ldc dX7_tips_29 wkX7_84 ?_
        refine V_ireturn dX7_tips_31 ⟨_, rfl, vp_nar_int _⟩ ?_
        have hq := hQ S (rKeep.rf S)
        rw [if_neg c4, if_neg (fun h => c26 h.2)] at hq
        exact hq
  · skip
    refine V_ldc dX7_tips_7 wkX7_173 ?_
    refine V_ireturn dX7_tips_9 ⟨_, rfl, vp_nar_int _⟩ ?_
    have hq := hQ S (rKeep.rf S)
    rw [if_pos c4] at hq
    exact hq
theorem kX7_leads (hM : xMo Y G) {mb pn : Nat} (hr : rSt S mb pn) {a z y w : Int32} {v : Nat → Int32} (hv : ∀ p n, a = nI p → p < pn → z = nI n → n ≤ 40 → rOK (S 0) (S 11) mb pn (S 13) → ∀ k, p < k → k ≤ 9 → ∀ f, ag f (S 13) → rBits (rThose (rGo (S 0) (S 11) mb n (upd f (17 + p) (nI k))) (nI 9) (nI 9) mb) 8 = v k) (hv2 : ∀ p, a = nI p → p < pn → w = (if y = 0 then nI (rLd v p (9 - p)).2 else (rLd v p (9 - p)).1)) (hQ : ∀ S2, rKeep S S2 → Q (some (xI (if rIn a (nI 0) (nI pn - nI 1) ∧ rIn z (nI 1) (nI 40) ∧ rIn y (nI 0) (nI 1) then w else -1000001))) Y G (va_up N 40 S2)) : V RX7 false cX7_leads 8 (some .int) none (d + 4) b 0 [some (xR 40 0), some (xI a), some (xI z), some (xI y), none, none, none, none] [] Y G (va_up N 40 S) Q := by
  refine V_ald0 dX7_leads_0 ?_
  refine V_ild1 dX7_leads_1 ?_
  refine V_iv1 dX7_leads_2 wlX7_189 mdX7_isPiece miX7_isPiece rfl (hM.1 0 (0, 7) rfl) rfl rfl (kX7_isPiece hM ⟨rfl, ?_⟩)
  rw [hr.2.1]
  refine V_ifeqB (tgt := 27) dX7_leads_5 (by decide) (fun c5 => ?_) (fun c5 => ?_)
  · skip
    refine V_ldc dX7_leads_27 wkX7_84 ?_
    refine V_ireturn dX7_leads_29 ⟨_, rfl, vp_nar_int _⟩ ?_
    have hq := hQ S (rKeep.rf S)
    rw [if_neg (fun h => c5 h.1)] at hq
    exact hq
  · skip
    refine V_ild2 dX7_leads_8 ?_
    refine V_iconst (v := nI 1) dX7_leads_9 (by decide) ?_
    refine V_bipush (v := nI 40) dX7_leads_10 (by decide) ?_
    refine V_is3 dX7_leads_12 wlX7_70 mdX7_in msX7_in rfl rfl (kX7_in ⟨rfl, ?_⟩)
    refine V_ifeqB (tgt := 27) dX7_leads_15 (by decide) (fun c15 => ?_) (fun c15 => ?_)
    · skip
      refine V_ldc dX7_leads_27 wkX7_84 ?_
      refine V_ireturn dX7_leads_29 ⟨_, rfl, vp_nar_int _⟩ ?_
      have hq := hQ S (rKeep.rf S)
      rw [if_neg (fun h => c15 h.2.1)] at hq
      exact hq
    · skip
      refine V_ild3 dX7_leads_18 ?_
      refine V_iconst (v := nI 0) dX7_leads_19 (by decide) ?_
      refine V_iconst (v := nI 1) dX7_leads_20 (by decide) ?_
      refine V_is3 dX7_leads_21 wlX7_70 mdX7_in msX7_in rfl rfl (kX7_in ⟨rfl, ?_⟩)
      refine V_ifneB (tgt := 30) dX7_leads_24 (by decide) (fun c24 => ?_) (fun c24 => ?_)
      · skip
        obtain ⟨p, hp, rfl⟩ := rIn_m c5 (by have := hr.b6; omega)
        obtain ⟨n, hn0, hn1, rfl⟩ := rIn_k c15 (by decide) (by decide)
        have hk := hr.okp hp
        have hpn := hk.pn
        have hv := hv p n rfl hp rfl hn1 hk
        refine V_iconst (v := nI 0) dX7_leads_30 (by decide) ?_
        refine V_ist4 dX7_leads_31 rfl ?_
        refine V_iconst (v := (-1)) dX7_leads_33 (by decide) ?_
        refine V_ist5 dX7_leads_34 rfl ?_
        refine V_ild1 dX7_leads_36 ?_
        refine V_iconst (v := nI 1) dX7_leads_37 (by decide) ?_
        refine V_iaddN dX7_leads_38 ?_
        refine V_ist6 dX7_leads_39 rfl ?_
        refine xDown (P := fun i => ∀ S2, S2 0 = S 0 → S2 11 = S 11 → S2 13 = S 13 → rKeep S S2 → rOK (S2 0) (S2 11) mb pn (S2 13) → ∀ l7, V RX7 false cX7_leads 8 (some .int) none (d + 4) b 41 [some (xR 40 0), some (xI (nI p)), some (xI (nI n)), some (xI y), some (xI (nI (rLd v p i).2)), some (xI (rLd v p i).1), some (xI (nI (p + 1 + i))), l7] [] Y G (va_up N 40 S2) Q) (9 - p) ?_ 0 (Nat.zero_le _) S rfl rfl rfl (rKeep.rf S) hk none 
        intro i hii hni S2 e0 e11 e13 hkeep hk2 l7
        refine V_ild6 dX7_leads_41 ?_
        refine V_bipush (v := nI 9) dX7_leads_43 (by decide) ?_
        refine V_icmpgtN (tgt := 115) dX7_leads_45 (by decide) (by omega) (by omega) (fun c45 => ?_) (fun c45 => ?_)
        · skip
          refine V_ild3 dX7_leads_115 ?_
          refine V_ifne (tgt := 124) dX7_leads_116 (by decide) (fun c116 => ?_) (fun c116 => ?_)
          · skip
            refine V_ild5 dX7_leads_124 ?_
            refine V_ireturn dX7_leads_126 ⟨_, rfl, vp_nar_int _⟩ ?_
            have hq := hQ _ hkeep
            have e9 : 9 - p = i := by omega
            rw [if_pos ⟨c5, c15, c24⟩, hv2 p rfl hp, if_neg c116, e9] at hq
            exact hq
          · skip
            refine V_ild4 dX7_leads_119 ?_
            refine V_goto (tgt := 126) dX7_leads_121 (by decide) ?_
            refine V_ireturn dX7_leads_126 ⟨_, rfl, vp_nar_int _⟩ ?_
            have hq := hQ _ hkeep
            have e9 : 9 - p = i := by omega
            rw [if_pos ⟨c5, c15, c24⟩, hv2 p rfl hp, if_pos c116, e9] at hq
            exact hq
        · skip
          refine V_ald0 dX7_leads_48 ?_
          refine V_iv0 dX7_leads_49 wlX7_202 mdX7_asItIs miX7_asItIs rfl (hM.1 0 (0, 7) rfl) rfl rfl (kX7_asItIs hM (fun f hf => ⟨rfl, ?_⟩))
          refine V_ald0 dX7_leads_52 ?_
          refine V_getR dX7_leads_53 flX7_41 (hM.1 0 (0, 7) rfl) (show G 40 0 18 = some (40, 19) from hM.2 18 (1, 67) rfl) ?_
          skip
          refine V_bipush (v := nI 17) dX7_leads_56 (by decide) ?_
          refine V_ild1 dX7_leads_58 ?_
          refine V_iaddN dX7_leads_59 ?_
          refine V_ild6 dX7_leads_60 ?_
          refine V_iasr dX7_leads_62 (hM.1 19 (1, 67) rfl) (by omega) (by decide) ?_
          refine V_uu ?_
          refine V_ald0 dX7_leads_63 ?_
          refine V_ild2 dX7_leads_64 ?_
          refine V_iv1 dX7_leads_65 wlX7_205 mdX7_goes miX7_goes rfl (hM.1 0 (0, 7) rfl) rfl rfl (kX7_goes hM ((hk2.ag hf).lead (p := p) (q := p + 1 + i) (by omega) (by omega) (by omega)) (by omega) ⟨rfl, ?_⟩)
          refine V_ald0 dX7_leads_68 ?_
          refine V_iv0 dX7_leads_69 wlX7_211 mdX7_rightOf miX7_rightOf rfl (hM.1 0 (0, 7) rfl) rfl rfl (kX7_rightOf hM (((hk2.ag hf).lead (p := p) (q := p + 1 + i) (by omega) (by omega) (by omega)).go n) ⟨rfl, ?_⟩)
          refine V_is1 dX7_leads_72 wlX7_217 mdX7_bits msX7_bits rfl rfl (kX7_bits ⟨rfl, ?_⟩)
          rw [show S2 0 = S 0 by exact e0, show S2 11 = S 11 by exact e11, hv (p + 1 + i) (by omega) (by omega) f (fun j hj => (hf j hj).trans (by rw [e13]))]
          refine V_ist7 dX7_leads_75 rfl ?_
          refine V_ild7 dX7_leads_77 ?_
          refine V_ild5 dX7_leads_79 ?_
          refine V_icmple (tgt := 89) dX7_leads_81 (by decide) (fun c81 => ?_) (fun c81 => ?_)
          · skip
            refine V_ild4 dX7_leads_89 ?_
            refine V_ist4 dX7_leads_91 rfl ?_
            refine V_ild7 dX7_leads_93 ?_
            refine V_ild5 dX7_leads_95 ?_
            refine V_icmple (tgt := 105) dX7_leads_97 (by decide) (fun c97 => ?_) (fun c97 => ?_)
            · skip
              refine V_ild5 dX7_leads_105 ?_
              refine V_ist5 dX7_leads_107 rfl ?_
              refine V_incN6 dX7_leads_109 rfl ?_
              refine V_goto (tgt := 41) dX7_leads_112 (by decide) ?_
              have hq := fun g => hni (by omega) (va_up S2 19 g) e0 e11 e13 (hkeep.n2 _) hk2.up19
              rw [rLd, if_neg (Int32.not_lt.mpr c97)] at hq
              exact hq _ _
            · exact absurd c81 c97
          · skip
            refine V_ild6 dX7_leads_84 ?_
            refine V_goto (tgt := 91) dX7_leads_86 (by decide) ?_
            refine V_ist4 dX7_leads_91 rfl ?_
            refine V_ild7 dX7_leads_93 ?_
            refine V_ild5 dX7_leads_95 ?_
            refine V_icmple (tgt := 105) dX7_leads_97 (by decide) (fun c97 => ?_) (fun c97 => ?_)
            · exact absurd c97 c81
            · skip
              refine V_ild7 dX7_leads_100 ?_
              refine V_goto (tgt := 107) dX7_leads_102 (by decide) ?_
              refine V_ist5 dX7_leads_107 rfl ?_
              refine V_incN6 dX7_leads_109 rfl ?_
              refine V_goto (tgt := 41) dX7_leads_112 (by decide) ?_
              have hq := fun g => hni (by omega) (va_up S2 19 g) e0 e11 e13 (hkeep.n2 _) hk2.up19
              rw [rLd, if_pos (Int32.not_le.mp c97)] at hq
              exact hq _ _
      · skip
        refine V_ldc dX7_leads_27 wkX7_84 ?_
        refine V_ireturn dX7_leads_29 ⟨_, rfl, vp_nar_int _⟩ ?_
        have hq := hQ S (rKeep.rf S)
        rw [if_neg (fun h => c24 h.2.2)] at hq
        exact hq
end KM
