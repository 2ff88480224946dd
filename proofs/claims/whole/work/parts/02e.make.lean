/-! STATIC CALLS, CONSTRUCTORS, NEW -/
theorem xw_oi : Cond.instanceMethod objectInit ∈ xWd := xWd_in (by decide +kernel) (by decide +kernel)
theorem xw_oc : Cond.code objectInit ⟨#[0xb1]⟩ 1 none ∈ xWd := xWd_in (by decide +kernel) (by decide +kernel)
theorem xw_ai : Cond.arrayClass .int ∈ xWd := xWd_in (by decide +kernel) (by decide +kernel)
theorem xw_az : Cond.arrayClass .boolean ∈ xWd := xWd_in (by decide +kernel) (by decide +kernel)
section XR
variable {own : String} {ini : Bool} {cc : ByteArray} {nL : Nat} {ret : Option FieldType} {X : Option (Nat × (Nat → Int32))} {d : Nat} {b : Nat × Nat} {pc : Nat} {loc : List (Option xAV)} {st : List xAV} {Y : xY} {G : xG} {N : xM} {Q : Option xAV → xY → xG → xM → Prop}
  {y : MethodName} {ycc : ByteArray} {ynL : Nat} {yret : Option FieldType} {as : List xAV}
theorem V_is {idx : Nat} (hd : decode cc pc = .ok (.invokestatic idx, 3)) (hw : Cond.methodLink own idx y ∈ xWd) (hm : xMd y ycc ynL yret as.length) (hi : Cond.static y ∈ xWd) (hst : st.length ≤ 4) (hlen : (xE as).length ≤ ynL)
    (hV : V y.cls false ycc ynL yret none d (0, 0) 0 (xE as ++ List.replicate (ynL - (xE as).length) none) [] Y G N (fun rv Y' G' N' => Y' = Y ∧ V own ini cc nL ret X (d + 1) b (pc + 3) loc (rv.toList ++ st) Y G' N' Q)) :
    V own ini cc nL ret X (d + 1) b pc loc (as.reverse ++ st) Y G N Q := by
  intro p l e R s m args below meth c0 D I A ρe Ye ρ H locs cells slots ls Qm C F Wo Ag hl hb hE
  have hfr : d + 1 ≤ R.frames := C.2.2.2.2.2.2.2.1
  have hlo : 64 * (d + 1) ≤ R.locals := C.2.2.2.2.2.2.2.2.1
  have hts := C.2.2.2.2.2.2.1
  have hM := xMet (l := l) hm.1 hlen (fun h => by cases h) hV I D ρ H.size
  have e1 := xcat_le ρ st
  refine xBack C F Wo Ag hl hb hE (va_runS (Ts := xWd) (As := as.map (xt ρ)) ⟨C.1, C.2.1, C.2.2.2.2.1, C.2.2.2.2.2.1, hts⟩ hM (va_cwS (ws' := xWd) as.length hts (xGood ?_) rfl rfl rfl hm.2.2.2.1 ⟨?_, ?_⟩) ⟨xPre_blind, fun U hU hW => ⟨rfl, by rw [hU], ?_, by rw [hU]; exact Wo.1, Wo.2.1.weaken (fun _ _ _ _ => trivial), Wo.2.2.2⟩⟩ rfl (List.length_map _) hl.1.1 ?_ ?_ hd ⟨Nat.le_trans (Nat.le_add_right _ _) hb.1, Nat.le_trans (Nat.le_add_right _ _) hb.2⟩)
  · intro w hw'
    simp only [va_wsS, List.mem_append, List.mem_cons, List.not_mem_nil, or_false] at hw'
    rcases hw' with (rfl | rfl | rfl) | rfl | h
    · exact hw
    · exact hi
    · exact hm.2.2.1
    · exact hm.2.1
    · exact h
  · exact hfr
  · have := hm.2.2.2.2
    show 8 + (ynL + 11) + 64 * d ≤ R.locals
    omega
  · exact xFx_go (locs := locs) F hW.alike (xNest_warm hW) (by rw [hU]; exact Wo.2.2.1) (xfree Wo.2.1 Wo.2.2.1 F.2.2.2.2.1) (fun q hq => Or.inr (by rw [hU] at hq; exact hq)) (Ag.2 _ _ (by decide))
  · show (as.reverse ++ st).map (xt ρ) = _
    rw [List.map_append, List.map_reverse]
  · show 2 * 0 + _ ≤ 8
    omega
theorem V_isN {idx : Nat} {host : String} (hd : decode cc pc = .ok (.invokestatic idx, 3)) (hw : Cond.methodLinkNest own idx y host ∈ xNest) (hm : xMd y ycc ynL yret as.length) (hi : Cond.static y ∈ xWd) (hst : st.length ≤ 4) (hlen : (xE as).length ≤ ynL)
    (hV : V y.cls false ycc ynL yret none d (0, 0) 0 (xE as ++ List.replicate (ynL - (xE as).length) none) [] Y G N (fun rv Y' G' N' => Y' = Y ∧ V own ini cc nL ret X (d + 1) b (pc + 3) loc (rv.toList ++ st) Y G' N' Q)) :
    V own ini cc nL ret X (d + 1) b pc loc (as.reverse ++ st) Y G N Q := by
  intro p l e R s m args below meth c0 D I A ρe Ye ρ H locs cells slots ls Qm C F Wo Ag hl hb hE
  have hfr : d + 1 ≤ R.frames := C.2.2.2.2.2.2.2.1
  have hlo : 64 * (d + 1) ≤ R.locals := C.2.2.2.2.2.2.2.2.1
  have hts := C.2.2.2.2.2.2.1
  have hM := xMet (l := l) hm.1 hlen (fun h => by cases h) hV I D ρ H.size
  have e1 := xcat_le ρ st
  refine xBack C F Wo Ag hl hb hE (va_runSN (Ts := xWd) (host := host) (As := as.map (xt ρ)) ⟨C.1, C.2.1, C.2.2.2.2.1, C.2.2.2.2.2.1, hts⟩ hM ⟨va_cnB (ws' := xWd) as.length hts (xGood ?_) rfl rfl rfl (F.2.2.2.1 _ hw) (hts _ hm.2.2.1) hm.2.2.2.1 ⟨?_, ?_⟩, hts _ hi, trivial⟩ ⟨xPre_blind, fun U hU hW => ⟨rfl, by rw [hU], ?_, by rw [hU]; exact Wo.1, Wo.2.1.weaken (fun _ _ _ _ => trivial), Wo.2.2.2⟩⟩ rfl (List.length_map _) hl.1.1 ?_ ?_ hd ⟨Nat.le_trans (Nat.le_add_right _ _) hb.1, Nat.le_trans (Nat.le_add_right _ _) hb.2⟩)
  · intro w hw'
    rcases List.mem_cons.mp hw' with rfl | h
    · exact hm.2.1
    · exact h
  · exact hfr
  · have := hm.2.2.2.2
    show 8 + (ynL + 11) + 64 * d ≤ R.locals
    omega
  · exact xFx_go (locs := locs) F hW.alike (xNest_warm hW) (by rw [hU]; exact Wo.2.2.1) (xfree Wo.2.1 Wo.2.2.1 F.2.2.2.2.1) (fun q hq => Or.inr (by rw [hU] at hq; exact hq)) (Ag.2 _ _ (by decide))
  · show (as.reverse ++ st).map (xt ρ) = _
    rw [List.map_append, List.map_reverse]
  · show 2 * 0 + _ ≤ 8
    omega
/-- references that are there -/
def xVl (Y : xY) : xAV → Prop
  | .inr (some q) => (∃ k, (q, k) ∈ Y) ∨ 1000000 ≤ q.1
  | _ => True
theorem xt_vl {Y Y' : xY} {ρ ρ' : xP} (hAg : xAg Y ρ Y' ρ') {v : xAV} (h : xVl Y v) : xt ρ' v = xt ρ v := by
  rcases v with (v | v) | (_ | q)
  · rfl
  · rfl
  · rfl
  · show Value.ref (ρ' q.1 q.2) = Value.ref (ρ q.1 q.2)
    rcases h with ⟨k, h⟩ | h
    · rw [(hAg.1 q k h).1]
    · rw [hAg.2 _ _ h]
theorem xL_vl {Y Y' : xY} {ρ ρ' : xP} (hAg : xAg Y ρ Y' ρ') : ∀ (loc : List (Option xAV)) (i : Nat), (∀ v, some v ∈ loc → xVl Y v) → xL ρ' i loc = xL ρ i loc
  | [], _, _ => rfl
  | none :: l, i, h => by rw [xL, xL]; exact xL_vl hAg l (i + 1) (fun v hv => h v (List.mem_cons_of_mem _ hv))
  | some v :: l, i, h => by rw [xL, xL, xt_vl hAg (h v List.mem_cons_self), xL_vl hAg l (i + 1) (fun v hv => h v (List.mem_cons_of_mem _ hv))]
theorem xst_vl {Y Y' : xY} {ρ ρ' : xP} (hAg : xAg Y ρ Y' ρ') {st : List xAV} (h : ∀ v ∈ st, xVl Y v) : st.map (xt ρ') = st.map (xt ρ) := List.map_congr_left (fun v hv => xt_vl hAg (h v hv))
def xVs (Y : xY) (loc : List (Option xAV)) (st : List xAV) : Prop := (∀ v, some v ∈ loc → xVl Y v) ∧ ∀ v ∈ st, xVl Y v
/-- a constructor's call, of a class's own pool or of a nest mate's -/
theorem V_in {b1 : Nat × Nat} {r c idx : Nat} (hd : decode cc pc = .ok (.invokespecial idx, 3)) (hw : Cond.methodLink own idx y ∈ xWd ∨ ∃ host, Cond.methodLinkNest own idx y host ∈ xNest) (hm : xMd y ycc ynL none as.length) (hi : Cond.instanceMethod y ∈ xWd ∧ y.name = "<init>") (hst : st.length ≤ 4) (hlen : (xE (xR r c :: as)).length ≤ ynL) (hvs : xVs Y loc st)
    (hV : V y.cls true ycc ynL none none d b1 0 (xE (xR r c :: as) ++ List.replicate (ynL - (xE (xR r c :: as)).length) none) [] Y G N (fun _ Y' G' N' => V own ini cc nL ret X (d + 1) b (pc + 3) loc st Y' G' N' Q)) :
    V own ini cc nL ret X (d + 1) (b1.1 + b.1, b1.2 + b.2) pc loc (as.reverse ++ xR r c :: st) Y G N Q := by
  intro p l e R s m args below meth c0 D I A ρe Ye ρ H locs cells slots ls Qm C F Wo Ag hl hb hE
  have hfr : d + 1 ≤ R.frames := C.2.2.2.2.2.2.2.1
  have hlo : 64 * (d + 1) ≤ R.locals := C.2.2.2.2.2.2.2.2.1
  have hts := C.2.2.2.2.2.2.1
  have hM := xMet (l := l) hm.1 hlen (fun _ => hi.2) hV I D ρ H.size
  have e1 := xcat_le ρ st
  have hbc : cells + (b1.1 + b.1) ≤ R.cells := hb.1
  have hbs : slots + (b1.2 + b.2) ≤ R.slots := hb.2
  have hy1 : ∀ w ∈ (Cond.code y ycc ynL none :: xWd), w ∈ xWd := by
    intro w hw'
    rcases List.mem_cons.mp hw' with rfl | h
    · exact hm.2.1
    · exact h
  have hnl := hm.2.2.2.2
  have hpre : PreS s H (va_Pc ((xR r c :: as).map (xt ρ)) (xPre I D ρ Y G N H.size)) (.ref (ρ r c) :: as.map (xt ρ)) := ⟨xPre_blind, fun U hU hW => ⟨rfl, by rw [hU], xFx_go (locs := locs) F hW.alike (xNest_warm hW) (by rw [hU]; exact Wo.2.2.1) (xfree Wo.2.1 Wo.2.2.1 F.2.2.2.2.1) (fun q hq => Or.inr (by rw [hU] at hq; exact hq)) (Ag.2 _ _ (by decide)), by rw [hU]; exact Wo.1, Wo.2.1.weaken (fun _ _ _ _ => trivial), Wo.2.2.2⟩⟩
  have hst2 : (as.reverse ++ xR r c :: st).map (xt ρ) = (as.map (xt ρ)).reverse ++ .ref (ρ r c) :: st.map (xt ρ) := by
    rw [List.map_append, List.map_reverse]
    rfl
  have hsum : 2 * (F0 m pc ls ((as.reverse ++ xR r c :: st).map (xt ρ))).monitorRoom + ((st.map (xt ρ)).map fun v => v.category).sum ≤ 8 := by
    show 2 * 0 + _ ≤ 8
    omega
  have hrl : 8 + (ynL + 11) + 64 * d ≤ R.locals := by omega
  have hr : va_Run p l e R s m args below meth c0 H locs cells slots b1.1 b1.2 (F0 m pc ls ((as.reverse ++ xR r c :: st).map (xt ρ))) (st.map (xt ρ)) (xPost I D ρ Y (va_A (xw I ρ Y G N) H.size) none (fun _ Y' G' N' => V own ini cc nL ret X (d + 1) b (pc + 3) loc st Y' G' N' Q) (Value.ref (ρ r c) :: as.map (xt ρ)).toArray) (va_A (xw I ρ Y G N) H.size) := by
    rcases hw with hw | ⟨host, hw⟩
    · exact va_runI (Ts := xWd) (As := as.map (xt ρ)) (b := ρ r c) ⟨C.1, C.2.1, C.2.2.2.2.1, C.2.2.2.2.2.1, hts⟩ hM (cwI (ws' := xWd) as.length hts (xGood hy1) rfl rfl rfl (hts _ hm.2.2.1) (hts _ hw) (hts _ hi.1) hi.2 hm.2.2.2.1 ⟨hfr, hrl⟩) hpre rfl (List.length_map _) hl.1.1 hst2 hsum hd ⟨by omega, by omega⟩
    · exact va_runIN (Ts := xWd) (host := host) (As := as.map (xt ρ)) (b := ρ r c) ⟨C.1, C.2.1, C.2.2.2.2.1, C.2.2.2.2.2.1, hts⟩ hM ⟨va_cnB (ws' := xWd) as.length hts (xGood hy1) rfl rfl rfl (F.2.2.2.1 _ hw) (hts _ hm.2.2.1) hm.2.2.2.1 ⟨hfr, hrl⟩, hi.2, hts _ hi.1⟩ hpre rfl (List.length_map _) hl.1.1 hst2 hsum hd ⟨by omega, by omega⟩
  refine xRet hr Wo (xfree Wo.2.1 Wo.2.2.1 F.2.2.2.2.1) ?_
  intro rv Y' G' N' ρ' H1 locs1 hV' hok Wo' Ag'
  have hn : rv = none := by
    rcases rv with _ | ((v | v) | q)
    · rfl
    · obtain ⟨ty, h, -⟩ := hok; cases h
    · cases hok
    · obtain ⟨⟨ty, h, -⟩, -⟩ := hok; cases h
  subst hn
  show W p l e R s m args below meth c0 H1 locs1 (cells + b1.1) (slots + b1.2) Qm (F0 m (pc + 3) ls (st.map (xt ρ)))
  rw [← xst_vl Ag' hvs.2]
  exact hV' p l e R s m args below meth c0 D I A ρe Ye ρ' H1 locs1 _ _ ls Qm C F Wo' (xAg_trans Ag Ag') ⟨by rw [xL_vl Ag' loc 0 hvs.1]; exact hl.1, hl.2⟩ ⟨by omega, by omega⟩ hE
theorem V_oinit {r c idx : Nat} (hd : decode cc pc = .ok (.invokespecial idx, 3)) (hw : Cond.methodLink own idx objectInit ∈ xWd) (hst : st.length ≤ 4) (k : V own ini cc nL ret X (d + 1) b (pc + 3) loc st Y G N Q) : V own ini cc nL ret X (d + 1) b pc loc (xR r c :: st) Y G N Q := by
  intro p l e R s m args below meth c0 D I A ρe Ye ρ H locs cells slots ls Qm C F Wo Ag hl hb hE
  have hfr : d + 1 ≤ R.frames := C.2.2.2.2.2.2.2.1
  have hlo : 64 * (d + 1) ≤ R.locals := C.2.2.2.2.2.2.2.2.1
  have hts := C.2.2.2.2.2.2.1
  have e1 := xcat_le ρ st
  refine W.objInit C.1 C.2.1 C.2.2.2.2.2.1 (hts _ hw) (hts _ xw_oi) (hts _ xw_oc) rfl (hl.1.1.trans C.2.2.2.2.1.symm) rfl hd (by omega) (by show 2 * 0 + _ + 12 ≤ _; omega) ?_
  exact k p l e R s m args below meth c0 D I A ρe Ye ρ H locs cells slots ls Qm C F Wo Ag hl hb hE
def xUp (ρ : xP) (r c q : Nat) : xP := fun r' c' => if r' = r ∧ c' = c then q else ρ r' c'
theorem xUp_ag {Y : xY} {ρ : xP} {r c q : Nat} {k : Nat × Nat} (hf : ∀ k, ((r, c), k) ∉ Y) (hr : r < 1000000) : xAg Y ρ (Y ++ [((r, c), k)]) (xUp ρ r c q) := by
  refine ⟨fun a k' h => ⟨?_, List.mem_append_left _ h⟩, fun r' c' h => ?_⟩
  · unfold xUp
    rw [if_neg]
    rintro ⟨h1, h2⟩
    obtain ⟨a1, a2⟩ := a
    cases h1; cases h2
    exact hf k' h
  · unfold xUp
    rw [if_neg]
    rintro ⟨h1, -⟩
    omega
theorem xUp_w {I : xD} {Y : xY} {G : xG} {N : xM} {ρ : xP} {r c q : Nat} {k : Nat × Nat} (hf : ∀ k, ((r, c), k) ∉ Y) (hr : r < 1000000) (hz : xZe Y G N) : xw I (xUp ρ r c q) (Y ++ [((r, c), k)]) G N = xw I ρ Y G N ++ [(q, xcell I ρ G N r c k)] := by
  have hq : ∀ a b i, xq (xUp ρ r c q) (G a b i) = xq ρ (G a b i) := by
    intro a b i
    unfold xq
    cases hg : G a b i with
    | none => rfl
    | some z =>
      obtain ⟨kd, hk⟩ := hz.2.1 a b i z hg
      simp only [Option.map_some]
      rw [((xUp_ag (k := k) (q := q) hf hr).1 z kd hk).1]
  have hc : xcell I (xUp ρ r c q) G N r c k = xcell I ρ G N r c k := by
    rcases k with ⟨_ | _ | _ | _ | k, n⟩ <;> simp [xcell, xfs, hq]
  rw [xw_app, xw_rho (ρ := ρ) (fun a k' h => ((xUp_ag (k := k) (q := q) hf hr).1 a k' h).1) hz.2.1]
  congr 1
  show [(xUp ρ r c q r c, xcell I (xUp ρ r c q) G N r c k)] = _
  rw [hc]
  unfold xUp
  rw [if_pos ⟨rfl, rfl⟩]
theorem xUp_z {Y : xY} {G : xG} {N : xM} {r c : Nat} {k : Nat × Nat} (hr : r < 1000000) (hz : xZe Y G N) : xZe (Y ++ [((r, c), k)]) G N := by
  refine ⟨fun r' c' h => hz.1 r' c' (fun k' hk => h k' (List.mem_append_left _ hk)), fun a b i q h => ?_, fun q k' h => ?_⟩
  · obtain ⟨kd, hk⟩ := hz.2.1 a b i q h
    exact ⟨kd, List.mem_append_left _ hk⟩
  · rcases List.mem_append.mp h with h | h
    · exact hz.2.2 q k' h
    · rw [List.mem_singleton] at h
      cases h
      exact hr
/-- what a new cell asks of the rest: its place is free, what stands in locals and stack is there -/
theorem xNew {p : Program} {l : Launch} {e : Env} {R : Room} {s : State} {m : MethodId} {args : Array Value} {below : List Frame} {meth : Method} {c0 : Code} {D : va_G} {I : xD} {A : Nat → Prop} {ρe : xP} {Ye : xY} {ρ : xP} {H : Heap} {locs : List Loc} {cells slots : Nat} {ls : Array Slot} {Qm : State → Prop} {r c nw ln : Nat} {kd : Nat × Nat}
    (k : V own ini cc nL ret X d b (pc + ln) loc (xR r c :: st) (Y ++ [((r, c), kd)]) G N Q) (hf : ∀ k, ((r, c), k) ∉ Y) (hr : r < 1000000) (hvs : xVs Y loc st)
    (C : xCx own ini cc nL ret d p R s m args meth c0) (F : xFx I D A ρe X s) (Wo : xWo I D A s.heap H locs ρ Y G N) (Ag : xAg Ye ρe Y ρ) (hl : lv_has ls nL (xL ρ 0 loc) ∧ loc.length = nL) (hb : cells + (b.1 + 1) ≤ R.cells ∧ slots + (b.2 + nw) ≤ R.slots)
    (hE : ∀ (r : Option xAV) (Y' : xY) (G' : xG) (N' : xM) (ρ' : xP) (H' : Heap) (locs' : List Loc) (cells' slots' pc' : Nat) (ls' : Array Slot), Q r Y' G' N' → xOk ret Y' r → xWo I D A s.heap H' locs' ρ' Y' G' N' → xAg Ye ρe Y' ρ' → cells' ≤ R.cells ∧ slots' ≤ R.slots → decode cc pc' = .ok (xRi r, 1) → W p l e R s m args below meth c0 H' locs' cells' slots' Qm (F0 m pc' ls' (r.toList.map (xt ρ'))))
    {q : Nat} {H1 : Heap} (hP : va_P D vwCl (xw I ρ Y G N ++ [(q, xcell I ρ G N r c kd)]) H1) (hD : va_D A (xw I ρ Y G N ++ [(q, xcell I ρ G N r c kd)])) (hS : va_S A s.heap H1 locs) :
    W p l e R s m args below meth c0 H1 locs (cells + 1) (slots + nw) Qm (F0 m (pc + ln) ls (.ref q :: st.map (xt ρ))) := by
  have hg := xUp_ag (ρ := ρ) (k := kd) (q := q) hf hr
  have hw := xUp_w (I := I) (ρ := ρ) (k := kd) (q := q) hf hr Wo.2.2.2
  rw [← hw] at hP hD
  have e1 : (Value.ref q :: st.map (xt ρ)) = (xR r c :: st).map (xt (xUp ρ r c q)) := by
    rw [List.map_cons, xst_vl hg hvs.2]
    show _ = Value.ref (xUp ρ r c q r c) :: _
    unfold xUp
    rw [if_pos ⟨rfl, rfl⟩]
  rw [e1]
  exact k p l e R s m args below meth c0 D I A ρe Ye _ H1 locs _ _ ls Qm C F ⟨hP, hD, hS, xUp_z hr Wo.2.2.2⟩ (xAg_trans Ag hg) ⟨by rw [xL_vl hg loc 0 hvs.1]; exact hl.1, hl.2⟩ ⟨by omega, by omega⟩ hE
theorem x_def (ty : FieldType) (bo : Bool) (h1 : bo = false → ty = .int) (h2 : bo = true → (∃ n, ty = .object n) ∨ ∃ t, ty = .array t) : defaultValue ty = if bo then .null else .int 0 := by
  cases bo
  · rw [h1 rfl]; rfl
  · rcases h2 rfl with ⟨n, rfl⟩ | ⟨t, rfl⟩ <;> rfl
/-- what the tables say of a class whose objects are made -/
def xNc (own : String) (idx ci : Nat) (n : Nat) : Prop := ∃ (C : String) (T : u_T) (ty : Nat → FieldType), vwCl[ci]? = some (C, T, n) ∧ Cond.classLink own idx C ∈ xWd ∧ Cond.instantiable C n ∈ xWd ∧ Cond.initialized C ∈ xWd ∧ (∀ w ∈ u_ws C T n, w ∈ xWd) ∧ (∀ j, j < n → parseFieldDescriptor (T j).2.2.1 = some (ty j)) ∧ (∀ j, j < n → ∃ bo, (xF ci)[j]? = some bo ∧ (bo = false → ty j = .int) ∧ (bo = true → (∃ n, ty j = .object n) ∨ ∃ t, ty j = .array t))
theorem V_new {r c idx ci n : Nat} (hd : decode cc pc = .ok (.new idx, 3)) (hn : xNc own idx ci n) (hf : ∀ k, ((r, c), k) ∉ Y) (hr : r < 1000000) (hvs : xVs Y loc st) (k : V own ini cc nL ret X d b (pc + 3) loc (xR r c :: st) (Y ++ [((r, c), (0, ci))]) G N Q) : V own ini cc nL ret X d (b.1 + 1, b.2 + n) pc loc st Y G N Q := by
  intro p l e R s m args below meth c0 D I A ρe Ye ρ H locs cells slots ls Qm C F Wo Ag hl hb hE
  obtain ⟨Cn, T, ty, h1, h2, h3, h4, h5, h6, h7⟩ := hn
  have hts := C.2.2.2.2.2.2.1
  have hb1 : cells + (b.1 + 1) ≤ R.cells := hb.1
  have hb2 : slots + (b.2 + n) ≤ R.slots := hb.2
  obtain ⟨z1, z2⟩ := Wo.2.2.2.1 r c hf
  refine va_new (ci := ci) (fs := xfs ρ G N r c ci) C.1 C.2.1 hts h5 ty h6 C.2.2.2.2.2.1 (hts _ h2) (hts _ h3) (hts _ h4) F.1 Wo.1 Wo.2.1 Wo.2.2.1 F.2.2.2.2.1 h1 ?_ (by omega) (by omega) hd (fun q H1 hP hD hS => xNew k hf hr hvs C F Wo Ag hl ⟨hb1, hb2⟩ hE hP hD hS)
  intro j hj
  obtain ⟨bo, g1, g2, g3⟩ := h7 j hj
  rw [x_def _ bo g2 g3]
  unfold vp_V
  rw [List.getD_eq_getElem?_getD]
  cases bo
  · rw [xfs_I g1, z1]; rfl
  · rw [xfs_R g1, z2]; rfl
theorem V_newI {r c nn : Nat} {n : Int32} (hd : decode cc pc = .ok (.newarray .int, 2)) (hn : ¬ n < 0) (hN : n.toNatClampNeg = nn) (hs : nn ≤ 100000) (hf : ∀ k, ((r, c), k) ∉ Y) (hr : r < 1000000) (hvs : xVs Y loc st) (k : V own ini cc nL ret X d b (pc + 2) loc (xR r c :: st) (Y ++ [((r, c), (1, nn))]) G N Q) : V own ini cc nL ret X d (b.1 + 1, b.2 + nn) pc loc (xI n :: st) Y G N Q := by
  intro p l e R s m args below meth c0 D I A ρe Ye ρ H locs cells slots ls Qm C F Wo Ag hl hb hE
  have hts := C.2.2.2.2.2.2.1
  have hb1 : cells + (b.1 + 1) ≤ R.cells := hb.1
  have hb2 : slots + (b.2 + nn) ≤ R.slots := hb.2
  obtain ⟨z1, z2⟩ := Wo.2.2.2.1 r c hf
  refine va_newa (atype := .int) (ty := .int) (a0 := (nn, .inl (fun _ => 0))) C.1 C.2.1 (hts _ xw_ai) rfl F.1 Wo.1 Wo.2.1 Wo.2.2.1 F.2.2.2.2.1 (fun _ => rfl) hn hN (by show nn * 4 ≤ _; omega) (by omega) (by omega) hd (fun q cA H1 hK hP hD hS => ?_)
  have e1 : some cA = some I.1 := ((hK.2 4 (cA, .int) rfl).2 : s.vm.findClass _ = some cA).symm.trans (F.1.2 0 (I.1, .int) rfl).2
  cases e1
  have e2 : xcell I ρ G N r c (1, nn) = .inl (I.1, nn, .inl (fun _ => 0)) := by simp only [xcell, z1]
  rw [← e2] at hP hD
  exact xNew k hf hr hvs C F Wo Ag hl ⟨hb1, hb2⟩ hE hP hD hS
theorem V_newZ {r c nn : Nat} {n : Int32} (hd : decode cc pc = .ok (.newarray .boolean, 2)) (hn : ¬ n < 0) (hN : n.toNatClampNeg = nn) (hs : nn ≤ 100000) (hf : ∀ k, ((r, c), k) ∉ Y) (hr : r < 1000000) (hvs : xVs Y loc st) (k : V own ini cc nL ret X d b (pc + 2) loc (xR r c :: st) (Y ++ [((r, c), (4, nn))]) G N Q) : V own ini cc nL ret X d (b.1 + 1, b.2 + nn) pc loc (xI n :: st) Y G N Q := by
  intro p l e R s m args below meth c0 D I A ρe Ye ρ H locs cells slots ls Qm C F Wo Ag hl hb hE
  have hts := C.2.2.2.2.2.2.1
  have hb1 : cells + (b.1 + 1) ≤ R.cells := hb.1
  have hb2 : slots + (b.2 + nn) ≤ R.slots := hb.2
  obtain ⟨z1, z2⟩ := Wo.2.2.2.1 r c hf
  refine va_newa (atype := .boolean) (ty := .boolean) (a0 := (nn, .inl (fun _ => 0))) C.1 C.2.1 (hts _ xw_az) rfl F.1 Wo.1 Wo.2.1 Wo.2.2.1 F.2.2.2.2.1 (fun _ => rfl) hn hN (by show nn * 1 ≤ _; omega) (by omega) (by omega) hd (fun q cA H1 hK hP hD hS => ?_)
  have e1 : some cA = some I.2.1 := ((hK.2 4 (cA, .boolean) rfl).2 : s.vm.findClass _ = some cA).symm.trans (F.1.2 1 (I.2.1, .boolean) rfl).2
  cases e1
  have e2 : xcell I ρ G N r c (4, nn) = .inl (I.2.1, nn, .inl (fun _ => 0)) := by simp only [xcell, z1]
  rw [← e2] at hP hD
  exact xNew k hf hr hvs C F Wo Ag hl ⟨hb1, hb2⟩ hE hP hD hS
theorem V_newT {r c nn idx : Nat} {n : Int32} (hd : decode cc pc = .ok (.anewarray idx, 3)) (hw : Cond.classLink own idx "MarbleRun$Track" ∈ xWd) (hn : ¬ n < 0) (hN : n.toNatClampNeg = nn) (hs : nn ≤ 100000) (hf : ∀ k, ((r, c), k) ∉ Y) (hr : r < 1000000) (hvs : xVs Y loc st) (k : V own ini cc nL ret X d b (pc + 3) loc (xR r c :: st) (Y ++ [((r, c), (2, nn))]) G N Q) : V own ini cc nL ret X d (b.1 + 1, b.2 + nn) pc loc (xI n :: st) Y G N Q := by
  intro p l e R s m args below meth c0 D I A ρe Ye ρ H locs cells slots ls Qm C F Wo Ag hl hb hE
  have hts := C.2.2.2.2.2.2.1
  have hb1 : cells + (b.1 + 1) ≤ R.cells := hb.1
  have hb2 : slots + (b.2 + nn) ≤ R.slots := hb.2
  obtain ⟨z1, z2⟩ := Wo.2.2.2.1 r c hf
  refine va_newq (C := "MarbleRun$Track") C.1 C.2.1 C.2.2.2.2.2.1 (hts _ hw) F.2.1 F.1 Wo.1 Wo.2.1 Wo.2.2.1 F.2.2.2.2.1 hn hN (by omega) (by omega) (by omega) hd (fun q cA H1 hK hP hD hS => ?_)
  obtain ⟨kA, comp, -, -, -, g1⟩ := (hK.2 4 (cA, .object "MarbleRun$Track") rfl).2
  obtain ⟨kA', comp', -, -, -, g2⟩ := (F.1.2 2 (I.2.2.1, .object "MarbleRun$Track") rfl).2
  have e1 : some cA = some I.2.2.1 := g1.symm.trans g2
  cases e1
  have e2 : xcell I ρ G N r c (2, nn) = .inl (I.2.2.1, nn, .inr (.inr (.inr (.inr (fun _ => none))))) := by simp only [xcell, z2]; rfl
  rw [← e2] at hP hD
  exact xNew k hf hr hvs C F Wo Ag hl ⟨hb1, hb2⟩ hE hP hD hS
end XR
