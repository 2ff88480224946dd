/-! CONSTRUCTORS -/
def yR (Y : xY) (r : Nat) (l : List (Nat × (Nat × Nat))) : xY := Y ++ l.map (fun q => ((r, q.1), q.2))
def Gr (Z : Nat → Prop) (Y : xY) (G : xG) (Y2 : xY) (G2 : xG) : Prop := (∀ q, q ∈ Y → q ∈ Y2) ∧ (∀ q, q ∈ Y2 → q ∈ Y ∨ Z q.1.1) ∧ ∀ q, ¬ Z q → G2 q = G q
theorem Gr.tr {Z Z2 : Nat → Prop} {Y Y2 Y3 : xY} {G G2 G3 : xG} (h : Gr Z Y G Y2 G2) (h2 : Gr Z2 Y2 G2 Y3 G3) : Gr (fun q => Z q ∨ Z2 q) Y G Y3 G3 := ⟨fun q hq => h2.1 q (h.1 q hq), fun q hq => (h2.2.1 q hq).elim (fun e => (h.2.1 q e).imp id Or.inl) (fun e => Or.inr (Or.inr e)), fun q hq => (h2.2.2 q (fun e => hq (Or.inr e))).trans (h.2.2 q (fun e => hq (Or.inl e)))⟩
theorem Gr.le {Z Z2 : Nat → Prop} {Y Y2 : xY} {G G2 : xG} (h : Gr Z Y G Y2 G2) (hz : ∀ q, Z q → Z2 q) : Gr Z2 Y G Y2 G2 := ⟨h.1, fun q hq => (h.2.1 q hq).imp id (hz _), fun q hq => h.2.2 q (fun e => hq (hz q e))⟩
theorem Gr.one {Y : xY} {G : xG} (r c : Nat) (k : Nat × Nat) : Gr (fun q => q = r) Y G (Y ++ [((r, c), k)]) G := ⟨fun q hq => List.mem_append_left _ hq, fun q hq => (List.mem_append.mp hq).imp id (fun e => by rw [List.mem_singleton.mp e]), fun _ _ => rfl⟩
theorem Gr.pt {Y : xY} {G : xG} (r c : Nat) (F : Nat → Option (Nat × Nat)) : Gr (fun q => q = r) Y G Y (xg G r c F) := ⟨fun q hq => hq, fun q hq => Or.inl hq, fun q hq => by unfold xg; rw [va_up_no _ _ hq]⟩
theorem Gr.fr {Z : Nat → Prop} {Y Y2 : xY} {G G2 : xG} (h : Gr Z Y G Y2 G2) {r c : Nat} (hr : ¬ Z r) (hf : ∀ k, ((r, c), k) ∉ Y) : ∀ k, ((r, c), k) ∉ Y2 := fun k hk => (h.2.1 _ hk).elim (hf k) (fun e => hr e)
theorem xTr.gr {Z : Nat → Prop} {Y Y2 : xY} {G G2 : xG} {r : Nat} (h : xTr Y G r) (hg : Gr Z Y G Y2 G2) (hr : ¬ Z r) : xTr Y2 G2 r := ⟨fun c k hk => hg.1 _ (h.1 c k hk), fun k h1 h2 => by rw [hg.2.2 r hr]; exact h.2 k h1 h2⟩
theorem xReg.gr {Z : Nat → Prop} {Y Y2 : xY} {G G2 : xG} {r : Nat} {K J : Nat → Option (Nat × Nat)} (h : xReg Y G r K J) (hg : Gr Z Y G Y2 G2) (hr : ¬ Z r) : xReg Y2 G2 r K J := ⟨fun c k hk => hg.1 _ (h.1 c k hk), fun k q hk => by rw [hg.2.2 r hr]; exact h.2 k q hk⟩
theorem yR_0 (Y : xY) (r : Nat) : yR Y r [] = Y := List.append_nil Y
theorem yR_in {Y : xY} {r c : Nat} {k : Nat × Nat} {l : List (Nat × (Nat × Nat))} (h : (c, k) ∈ l) : ((r, c), k) ∈ yR Y r l := List.mem_append_right _ (List.mem_map.mpr ⟨(c, k), h, rfl⟩)
theorem yR_l {Y : xY} {r : Nat} {l : List (Nat × (Nat × Nat))} {q : (Nat × Nat) × (Nat × Nat)} (h : q ∈ Y) : q ∈ yR Y r l := List.mem_append_left _ h
theorem yR_gr {Y : xY} {G : xG} {r : Nat} {l : List (Nat × (Nat × Nat))} {F : Nat → Option (Nat × Nat)} : Gr (fun q => q = r) Y G (yR Y r l) (xg G r 0 F) := ⟨fun q hq => yR_l hq, fun q hq => (List.mem_append.mp hq).imp id (fun e => by obtain ⟨a, -, rfl⟩ := List.mem_map.mp e; rfl), fun q hq => by unfold xg; rw [va_up_no _ _ hq]⟩
theorem yR_app (Y : xY) (r c : Nat) (k : Nat × Nat) (l : List (Nat × (Nat × Nat))) : yR Y r l ++ [((r, c), k)] = yR Y r (l ++ [(c, k)]) := by unfold yR; rw [List.map_append, List.append_assoc]; rfl
theorem yR_fr {Y : xY} {r c : Nat} {l : List (Nat × (Nat × Nat))} (hf : ∀ k, ((r, c), k) ∉ Y) (hl : l.all (fun q => q.1 != c) = true) : ∀ k, ((r, c), k) ∉ yR Y r l := by
  intro k hk
  rcases List.mem_append.mp hk with h | h
  · exact hf k h
  · obtain ⟨a, ha, e⟩ := List.mem_map.mp h
    have h1 := List.all_eq_true.mp hl a ha
    cases e
    simp at h1
theorem xg_id (G : xG) (r c : Nat) : xg G r c (G r c) = G := by unfold xg; rw [va_up_id, va_up_id]
theorem xg_xg (G : xG) (r c : Nat) (F F2 : Nat → Option (Nat × Nat)) : xg (xg G r c F) r c F2 = xg G r c F2 := by
  funext a b
  by_cases h : a = r ∧ b = c
  · obtain ⟨rfl, rfl⟩ := h; rw [xg_eq, xg_eq]
  · rw [xg_no _ _ h, xg_no _ _ h, xg_no _ _ h]
theorem xVs_r {Y : xY} {r : Nat} {kd : Nat × Nat} (h : ((r, 0), kd) ∈ Y) : xVs Y [some (xR r 0)] [xR r 0] := by
  refine ⟨fun v hv => ?_, fun v hv => ?_⟩
  · cases List.mem_singleton.mp hv
    exact Or.inl ⟨kd, h⟩
  · cases List.mem_singleton.mp hv
    exact Or.inl ⟨kd, h⟩
theorem xVs_cons {Y : xY} {loc : List (Option xAV)} {st : List xAV} {r c : Nat} {kd : Nat × Nat} (h : ((r, c), kd) ∈ Y) (hs : xVs Y loc st) : xVs Y loc (xR r c :: st) := ⟨hs.1, fun v hv => (List.mem_cons.mp hv).elim (fun e => by rw [e]; exact Or.inl ⟨kd, h⟩) (hs.2 v)⟩
theorem xVs_int {Y : xY} {loc : List (Option xAV)} {st : List xAV} {x : Int32} (hs : xVs Y loc st) : xVs Y loc (xI x :: st) := ⟨hs.1, fun v hv => (List.mem_cons.mp hv).elim (fun e => by rw [e]; trivial) (hs.2 v)⟩
theorem xVs_nil {Y : xY} {loc : List (Option xAV)} (h : ∀ v, some v ∈ loc → xVl Y v) : xVs Y loc [] := ⟨h, fun v hv => absurd hv List.not_mem_nil⟩
theorem xVl_r {Y : xY} {r c : Nat} {kd : Nat × Nat} (h : ((r, c), kd) ∈ Y) : xVl Y (xR r c) := Or.inl ⟨kd, h⟩
theorem loc1 {Y : xY} {a : xAV} (h : xVl Y a) : ∀ v, some v ∈ [some a] → xVl Y v := fun v hv => by cases List.mem_singleton.mp hv; exact h
theorem locC {Y : xY} {a : xAV} {l : List (Option xAV)} (h : xVl Y a) (hl : ∀ v, some v ∈ l → xVl Y v) : ∀ v, some v ∈ some a :: l → xVl Y v := fun v hv => (List.mem_cons.mp hv).elim (fun e => by cases e; exact h) (hl v)
theorem locN {Y : xY} {l : List (Option xAV)} (hl : ∀ v, some v ∈ l → xVl Y v) : ∀ v, some v ∈ none :: l → xVl Y v := fun v hv => (List.mem_cons.mp hv).elim (fun e => by cases e) (hl v)
theorem loc0 {Y : xY} : ∀ v : xAV, some v ∈ ([] : List (Option xAV)) → xVl Y v := fun v hv => absurd hv List.not_mem_nil
theorem xVl_mono {Y Z : xY} {v : xAV} (h : xVl Y v) : xVl (Y ++ Z) v := by
  rcases v with (v | v) | (_ | q)
  · trivial
  · trivial
  · trivial
  · exact h.imp (fun ⟨k, hk⟩ => ⟨k, List.mem_append_left _ hk⟩) id
section XR
variable {own : String} {ini : Bool} {cc : ByteArray} {nL : Nat} {ret : Option FieldType} {X : Option (Nat × (Nat → Int32))} {d : Nat} {b : Nat × Nat} {pc : Nat} {loc : List (Option xAV)} {st : List xAV} {Y : xY} {G : xG} {N : xM} {Q : Option xAV → xY → xG → xM → Prop}
theorem V.bud {b2 : Nat × Nat} (h : V own ini cc nL ret X d b pc loc st Y G N Q) (hb : b.1 ≤ b2.1 ∧ b.2 ≤ b2.2) : V own ini cc nL ret X d b2 pc loc st Y G N Q := by
  intro p l e R s m args below meth c D I A ρe Ye ρ H locs cells slots ls Qm C F Wo Ag hl hb2 hE
  exact h p l e R s m args below meth c D I A ρe Ye ρ H locs cells slots ls Qm C F Wo Ag hl ⟨by omega, by omega⟩ hE
theorem V_rep (r : Nat) (k : V own ini cc nL ret X d b pc loc st (yR Y r []) (xg G r 0 (G r 0)) N Q) : V own ini cc nL ret X d b pc loc st Y G N Q := by rw [yR_0, xg_id] at k; exact k
theorem V_pZ {r c ci k0 idx : Nat} (hd : decode cc pc = .ok (.putfield idx, 3)) (hf : xFl own idx ci k0 false false) (hY : ((r, c), (0, ci)) ∈ Y) (hz : N r c k0 = 0) (k : V own ini cc nL ret X d b (pc + 3) loc st Y G N Q) : V own ini cc nL ret X d b pc loc (xI 0 :: xR r c :: st) Y G N Q := by
  refine V_putI hd hf hY ?_
  have e : upd (N r c) k0 0 = N r c := by rw [← hz]; exact upd_self _ _
  rw [e]
  unfold xp
  rw [va_up_id, va_up_id]
  exact k
theorem V_nI {r c nn : Nat} {l : List (Nat × (Nat × Nat))} (hd : decode cc pc = .ok (.newarray .int, 2)) (hs : nn ≤ 100000) (hfr : ∀ k, ((r, c), k) ∉ Y) (hl : l.all (fun q => q.1 != c) = true) (hr : r < 1000000) (hvs : xVs (yR Y r l) loc st) (k : V own ini cc nL ret X d b (pc + 2) loc (xR r c :: st) (yR Y r (l ++ [(c, (1, nn))])) G N Q) : V own ini cc nL ret X d (b.1 + 1, b.2 + nn) pc loc (xI (nI nn) :: st) (yR Y r l) G N Q := by
  refine V_newI (r := r) (c := c) hd (nI_pos (by omega)) (nI_clamp (by omega)) hs (yR_fr hfr hl) hr hvs ?_
  rw [yR_app]
  exact k
theorem V_nZ {r c nn : Nat} {l : List (Nat × (Nat × Nat))} (hd : decode cc pc = .ok (.newarray .boolean, 2)) (hs : nn ≤ 100000) (hfr : ∀ k, ((r, c), k) ∉ Y) (hl : l.all (fun q => q.1 != c) = true) (hr : r < 1000000) (hvs : xVs (yR Y r l) loc st) (k : V own ini cc nL ret X d b (pc + 2) loc (xR r c :: st) (yR Y r (l ++ [(c, (4, nn))])) G N Q) : V own ini cc nL ret X d (b.1 + 1, b.2 + nn) pc loc (xI (nI nn) :: st) (yR Y r l) G N Q := by
  refine V_newZ (r := r) (c := c) hd (nI_pos (by omega)) (nI_clamp (by omega)) hs (yR_fr hfr hl) hr hvs ?_
  rw [yR_app]
  exact k
theorem V_nT {r c nn idx : Nat} {l : List (Nat × (Nat × Nat))} (hd : decode cc pc = .ok (.anewarray idx, 3)) (hw : Cond.classLink own idx "MarbleRun$Track" ∈ xWd) (hs : nn ≤ 100000) (hfr : ∀ k, ((r, c), k) ∉ Y) (hl : l.all (fun q => q.1 != c) = true) (hr : r < 1000000) (hvs : xVs (yR Y r l) loc st) (k : V own ini cc nL ret X d b (pc + 3) loc (xR r c :: st) (yR Y r (l ++ [(c, (2, nn))])) G N Q) : V own ini cc nL ret X d (b.1 + 1, b.2 + nn) pc loc (xI (nI nn) :: st) (yR Y r l) G N Q := by
  refine V_newT (r := r) (c := c) hd hw (nI_pos (by omega)) (nI_clamp (by omega)) hs (yR_fr hfr hl) hr hvs ?_
  rw [yR_app]
  exact k
theorem V_pF {r c ci k0 idx : Nat} {kd : Nat × Nat} {l : List (Nat × (Nat × Nat))} {F : Nat → Option (Nat × Nat)} (hd : decode cc pc = .ok (.putfield idx, 3)) (hf : xFl own idx ci k0 true true) (hY : ((r, 0), (0, ci)) ∈ Y) (hi : ini = true) (hin : (c, kd) ∈ l) (k : V own ini cc nL ret X d b (pc + 3) loc st (yR Y r l) (xg G r 0 (va_up F k0 (some (r, c)))) N Q) : V own ini cc nL ret X d b pc loc (xR r c :: xR r 0 :: st) (yR Y r l) (xg G r 0 F) N Q := by
  refine V_putRF hd hf (yR_l hY) hi (fun a ha => ⟨kd, by cases ha; exact yR_in hin⟩) ?_
  rw [xg_eq, xg_xg]
  exact k
theorem V_inS {y : MethodName} {ycc : ByteArray} {ynL : Nat} {as : List xAV} {b1 : Nat × Nat} {r c idx : Nat} (hd : decode cc pc = .ok (.invokespecial idx, 3)) (hw : Cond.methodLink own idx y ∈ xWd ∨ ∃ host, Cond.methodLinkNest own idx y host ∈ xNest) (hm : xMd y ycc ynL none as.length) (hi : Cond.instanceMethod y ∈ xWd ∧ y.name = "<init>") (hst : ∀ ρ : xP, ((st.map (xt ρ)).map fun v => v.category).sum ≤ 8) (hlen : (xE (xR r c :: as)).length ≤ ynL) (hvs : xVs Y loc st)
    (hV : V y.cls true ycc ynL none none d b1 0 (xE (xR r c :: as) ++ List.replicate (ynL - (xE (xR r c :: as)).length) none) [] Y G N (fun _ Y' G' N' => V own ini cc nL ret X (d + 1) b (pc + 3) loc st Y' G' N' Q)) :
    V own ini cc nL ret X (d + 1) (b1.1 + b.1, b1.2 + b.2) pc loc (as.reverse ++ xR r c :: st) Y G N Q := by
  intro p l e R s m args below meth c0 D I A ρe Ye ρ H locs cells slots ls Qm C F Wo Ag hl hb hE
  have hfr : d + 1 ≤ R.frames := C.2.2.2.2.2.2.2.1
  have hlo : 64 * (d + 1) ≤ R.locals := C.2.2.2.2.2.2.2.2.1
  have hts := C.2.2.2.2.2.2.1
  have hM := xMet (l := l) hm.1 hlen (fun _ => hi.2) hV I D ρ H.size
  have hbc : cells + (b1.1 + b.1) ≤ R.cells := hb.1
  have hbs : slots + (b1.2 + b.2) ≤ R.slots := hb.2
  have hy1 : ∀ w ∈ (Cond.code y ycc ynL none :: xWd), w ∈ xWd := by
    intro w hw'
    rcases List.mem_cons.mp hw' with rfl | h
    · exact hm.2.1
    · exact h
  have hnl := hm.2.2.2.2
  have hpre : PreS s H (va_Pc ((xR r c :: as).map (xt ρ)) (xPre I D ρ Y G N H.size)) (.ref (ρ r c) :: as.map (xt ρ)) := ⟨xPre_blind, fun U hU hW => ⟨rfl, by rw [hU], xFx_go (locs := locs) F hW.alike (xNest_warm hW) (by rw [hU]; exact Wo.2.2.1) (xfree Wo.2.1 Wo.2.2.1 F.2.2.2.2.1) (fun q hq => Or.inr (by rw [hU] at hq; exact hq)) (Ag.2 _ _ (by decide)), by rw [hU]; exact Wo.1, Wo.2.1.weaken (fun _ _ _ _ => trivial), Wo.2.2.2⟩⟩
  have hst2 : (as.reverse ++ xR r c :: st).map (xt ρ) = (as.map (xt ρ)).reverse ++ .ref (ρ r c) :: st.map (xt ρ) := by
    rw [List.map_append, List.map_reverse]
    rfl
  have hsum : 2 * (F0 m pc ls ((as.reverse ++ xR r c :: st).map (xt ρ))).monitorRoom + ((st.map (xt ρ)).map fun v => v.category).sum ≤ 8 := by
    show 2 * 0 + _ ≤ 8
    have := hst ρ
    omega
  have hrl : 8 + (ynL + 11) + 64 * d ≤ R.locals := by omega
  have hr : va_Run p l e R s m args below meth c0 H locs cells slots b1.1 b1.2 (F0 m pc ls ((as.reverse ++ xR r c :: st).map (xt ρ))) (st.map (xt ρ)) (xPost I D ρ Y (va_A (xw I ρ Y G N) H.size) none (fun _ Y' G' N' => V own ini cc nL ret X (d + 1) b (pc + 3) loc st Y' G' N' Q) (Value.ref (ρ r c) :: as.map (xt ρ)).toArray) (va_A (xw I ρ Y G N) H.size) := by
    rcases hw with hw | ⟨host, hw⟩
    · exact va_runI (Ts := xWd) (As := as.map (xt ρ)) (b := ρ r c) ⟨C.1, C.2.1, C.2.2.2.2.1, C.2.2.2.2.2.1, hts⟩ hM (cwI (ws' := xWd) as.length hts (xGood hy1) rfl rfl rfl (hts _ hm.2.2.1) (hts _ hw) (hts _ hi.1) hi.2 hm.2.2.2.1 ⟨hfr, hrl⟩) hpre rfl (List.length_map _) hl.1.1 hst2 hsum hd ⟨by omega, by omega⟩
    · exact va_runIN (Ts := xWd) (host := host) (As := as.map (xt ρ)) (b := ρ r c) ⟨C.1, C.2.1, C.2.2.2.2.1, C.2.2.2.2.2.1, hts⟩ hM ⟨va_cnB (ws' := xWd) as.length hts (xGood hy1) rfl rfl rfl (F.2.2.2.1 _ hw) (hts _ hm.2.2.1) hm.2.2.2.1 ⟨hfr, hrl⟩, hi.2, hts _ hi.1⟩ hpre rfl (List.length_map _) hl.1.1 hst2 hsum hd ⟨by omega, by omega⟩
  refine xRet hr Wo (xfree Wo.2.1 Wo.2.2.1 F.2.2.2.2.1) ?_
  intro rv Y' G' N' ρ' H1 locs1 hV' hok Wo' Ag'
  have hn : rv = none := by
    rcases rv with _ | ((v | v) | q)
    · rfl
    · obtain ⟨ty, h, -⟩ := hok; cases h
    · cases hok
    · obtain ⟨⟨ty, h, -⟩, -⟩ := hok; cases h
  subst hn
  show W p l e R s m args below meth c0 H1 locs1 (cells + b1.1) (slots + b1.2) Qm (F0 m (pc + 3) ls (st.map (xt ρ)))
  rw [← xst_vl Ag' hvs.2]
  exact hV' p l e R s m args below meth c0 D I A ρe Ye ρ' H1 locs1 _ _ ls Qm C F Wo' (xAg_trans Ag Ag') ⟨by rw [xL_vl Ag' loc 0 hvs.1]; exact hl.1, hl.2⟩ ⟨by omega, by omega⟩ hE
theorem V_mk {y : MethodName} {ycc : ByteArray} {ynL ci n r idx jdx : Nat} {b1 : Nat × Nat} (hd1 : decode cc pc = .ok (.new idx, 3)) (hd2 : decode cc (pc + 3) = .ok (.dup, 1)) (hd3 : decode cc (pc + 3 + 1) = .ok (.invokespecial jdx, 3)) (hn : xNc own idx ci n) (hw : Cond.methodLink own jdx y ∈ xWd ∨ ∃ host, Cond.methodLinkNest own jdx y host ∈ xNest) (hm : xMd y ycc (ynL + 1) none 0) (hi : Cond.instanceMethod y ∈ xWd ∧ y.name = "<init>") (hst : ∀ ρ : xP, (((xR r 0 :: st).map (xt ρ)).map fun v => v.category).sum ≤ 8) (hr : r < 1000000) (hf : ∀ k, ((r, 0), k) ∉ Y) (hvs : xVs Y loc st)
    (hV : V y.cls true ycc (ynL + 1) none none d b1 0 (some (xR r 0) :: List.replicate ynL none) [] (Y ++ [((r, 0), (0, ci))]) G N (fun _ Y' G' N' => V own ini cc nL ret X (d + 1) b (pc + 7) loc (xR r 0 :: st) Y' G' N' Q)) :
    V own ini cc nL ret X (d + 1) (b1.1 + b.1 + 1, b1.2 + b.2 + n) pc loc st Y G N Q := by
  refine V_new (b := (b1.1 + b.1, b1.2 + b.2)) (r := r) (c := 0) hd1 hn hf hr hvs ?_
  refine V_dupR hd2 ?_
  have hin : ((r, 0), (0, ci)) ∈ Y ++ [((r, 0), (0, ci))] := List.mem_append_right _ (List.mem_singleton.mpr rfl)
  refine V_inS (as := []) (b1 := b1) (b := b) hd3 hw hm hi hst (by show 1 ≤ ynL + 1; omega) ?_ hV
  refine xVs_cons hin ⟨fun v hv => ?_, fun v hv => ?_⟩
  · exact xVl_mono (hvs.1 v hv)
  · exact xVl_mono (hvs.2 v hv)
end XR
