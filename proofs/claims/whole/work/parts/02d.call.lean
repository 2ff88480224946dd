/-! CALLS -/
theorem xfree {A : Nat → Prop} {H0 H : Heap} {locs : List Loc} {ws : va_W} (hD : va_D A ws) (hS : va_S A H0 H locs) (hA : ∀ q, H0.size ≤ q → A q) : ∀ q, va_A ws H.size q → A q := by
  rintro q (⟨k, e, h⟩ | h)
  · exact hD.2 k _ h
  · exact hA q (Nat.le_trans hS.1 h)
theorem xGood {ws : List Cond} (h : ∀ w ∈ ws, w ∈ xWd) : GoodIn xWd ws := fun w hw => xWd_good w (h w hw)
theorem xE_len {ρ : xP} : ∀ as : List xAV, (lg_sl (as.map (xt ρ))).length = (xE as).length
  | [] => rfl
  | .inl (.inr v) :: as => by
    have ih := xE_len (ρ := ρ) as
    unfold lg_sl at ih ⊢
    rw [List.map_cons, List.flatMap_cons, List.length_append, ih, xE]
    simp [xt, Value.category]
    omega
  | .inl (.inl v) :: as => by
    have ih := xE_len (ρ := ρ) as
    unfold lg_sl at ih ⊢
    rw [List.map_cons, List.flatMap_cons, List.length_append, ih]
    simp [xt, Value.category, xE]
    omega
  | .inr v :: as => by
    have ih := xE_len (ρ := ρ) as
    unfold lg_sl at ih ⊢
    rw [List.map_cons, List.flatMap_cons, List.length_append, ih]
    rcases v with _ | v <;> simp [xt, Value.category, xE] <;> omega
theorem xFx_go {I : xD} {D : va_G} {A B : Nat → Prop} {ρe ρ : xP} {X : Option (Nat × (Nat → Int32))} {s U : State} {locs : List Loc} (F : xFx I D A ρe X s) (hal : s.vm.Alike U.vm) (hn : ∀ w ∈ xNest, va_Nw w s → va_Nw w U) (hS : va_S A s.heap U.heap locs) (hAB : ∀ q, B q → A q) (hB : ∀ q, U.heap.size ≤ q → B q) (hρ : ρ 1000001 0 = ρe 1000001 0) : xFx I D B ρ none U := by
  obtain ⟨f1, f2, f3, f4, f5, f6, f7, f8⟩ := F
  refine ⟨f1.moved hal, f2.moved hal, xAOA_moved hal f3, fun w hw => hn w hw (f4 w hw), hB, ?_, ?_, fun L xs h => by cases h⟩
  · rw [hρ]
    exact ((f6.moved hal).kept (fun a h1 h2 => hS.2.1 a h1 h2)).narrow hAB
  · rw [hρ]
    exact ((f7.moved hal).kept (fun a h1 h2 => hS.2.1 a h1 h2)).narrow hAB
theorem xNest_warm {s U : State} (hW : s.WarmedH U.vm) : ∀ w ∈ xNest, va_Nw w s → va_Nw w U := by
  intro w hw h
  have h1 := (List.mem_filter.mp hw).2
  cases w <;> first | exact va_Nw.warmM hW h | cases h1
theorem xNest_same {s U : State} (hv : s.vm = U.vm) : ∀ w ∈ xNest, va_Nw w s → va_Nw w U := by
  intro w hw h
  have h1 := (List.mem_filter.mp hw).2
  cases w <;> first | exact va_Nw.same rfl hv h | cases h1
def xPre (I : xD) (D : va_G) (ρ : xP) (Y : xY) (G : xG) (N : xM) (sz : Nat) (U : State) : Prop :=
  U.heap.size = sz ∧ xFx I D (va_A (xw I ρ Y G N) sz) ρ none U ∧ va_P D vwCl (xw I ρ Y G N) U.heap ∧ va_D (fun _ => True) (xw I ρ Y G N) ∧ xZe Y G N
def xPost (I : xD) (D : va_G) (ρ : xP) (Y : xY) (A : Nat → Prop) (ret : Option FieldType) (Q : Option xAV → xY → xG → xM → Prop) : Array Value → State → Outcome → State → Prop := fun _ st oc t =>
  (∃ (r : Option xAV) (Y' : xY) (G' : xG) (N' : xM) (ρ' : xP), oc = .returned (r.map (xt ρ')) ∧ Q r Y' G' N' ∧ xOk ret Y' r ∧ va_P D vwCl (xw I ρ' Y' G' N') t.heap ∧ va_D A (xw I ρ' Y' G' N') ∧ xZe Y' G' N' ∧ xAg Y ρ Y' ρ') ∧ va_F A st t
theorem xPre_blind {I : xD} {D : va_G} {ρ : xP} {Y : xY} {G : xG} {N : xM} {sz : Nat} {vs : List Value} : FrameBlind (va_Pc vs (xPre I D ρ Y G N sz)) := by
  rintro a U g mk ⟨h0, h1, h2, h3, h4, h5⟩
  refine ⟨h0, h1, ?_, h3, h4, h5⟩
  exact xFx_go (U := U.calling g mk a) (locs := []) h2 (Vm.Alike.refl U.vm) (xNest_same rfl) va_S.rf (fun _ h => h) (fun q hq => h2.2.2.2.2.1 q hq) rfl
set_option maxHeartbeats 1000000 in
theorem xMet {l : Launch} {y : MethodName} {ini : Bool} {cc : ByteArray} {nL : Nat} {ret : Option FieldType} {d : Nat} {b : Nat × Nat} {as : List xAV} {Y : xY} {G : xG} {N : xM} {Q : Option xAV → xY → xG → xM → Prop} (hy : plainName y.cls = true) (hlen : (xE as).length ≤ nL) (hini : ini = true → y.name = "<init>")
    (hV : V y.cls ini cc nL ret none d b 0 (xE as ++ List.replicate (nL - (xE as).length) none) [] Y G N Q) (I : xD) (D : va_G) (ρ : xP) (sz : Nat) :
    Met l y (Cond.code y cc nL ret :: xWd) { frames := d, cells := b.1, slots := b.2, locals := 64 * d } (va_Pc (as.map (xt ρ)) (xPre I D ρ Y G N sz)) (xPost I D ρ Y (va_A (xw I ρ Y G N) sz) ret Q) b.1 b.2 (va_A (xw I ρ Y G N) sz) := by
  refine Met.ofW (cc := cc) (maxL := nL) (ret := ret) hy rfl ?_
  intro p e s m args below meth c s₁ B hml hv
  obtain ⟨rfl, hsz, hF, hP, hD, hZ⟩ := hv
  have hts := atoms_spec (ws := Cond.code y cc nL ret :: xWd) B.pre
  have hl := lv_entry (as.map (xt ρ)) (n := nL) (by rw [xE_len]; exact hlen)
  have hlocks := B.notSynchronized
  rw [lg_entry_eq]
  refine hV p l e _ s m _ below meth c D I (va_A (xw I ρ Y G N) sz) ρ Y ρ s.heap [] 0 0 _ _ ⟨B.exec, B.bytes, B.returns, B.notSynchronized, hml, findClass_of_methodNamed B.named, fun w hw => hts w (List.mem_cons_of_mem _ hw), Nat.le_refl _, Nat.le_refl _, fun h => (name_of_methodNamed B.named B.method).1.trans (hini h)⟩ hF ⟨hP, hD.self, va_S.rf, hZ⟩ ⟨fun q k h => ⟨rfl, h⟩, fun _ _ _ => rfl⟩ ⟨lv_less hl (fun q hq => xE_in as 0 hq), ?_⟩ ⟨Nat.le_of_eq (Nat.zero_add _), Nat.le_of_eq (Nat.zero_add _)⟩ ?_
  · rw [List.length_append, List.length_replicate]
    omega
  intro r Y' G' N' ρ' H' locs' cells' slots' pc' ls' hQ hok hWo hAg hcs hd
  refine W.widen (k := b.1) (n := b.2) hcs.1 hcs.2 ?_
  have hq : ∀ t : State, t.heap = H' → xPost I D ρ Y (va_A (xw I ρ Y G N) sz) ret Q (as.map (xt ρ)).toArray s (.returned (r.map (xt ρ'))) t := by
    intro t ht
    refine ⟨⟨r, Y', G', N', ρ', rfl, hQ, hok, by rw [ht]; exact hWo.1, hWo.2.1, hWo.2.2.2, hAg⟩, hWo.2.2.1.F ht⟩
  rcases r with _ | ((v | v) | q)
  · exact W.vret B.exec B.bytes (B.returns.trans hok) (fun t ht _ => hq t ht) hWo.2.2.1.2.2 hd hlocks
  · obtain ⟨ty, h1, h2⟩ := hok
    exact W.zret B.exec B.bytes (B.returns.trans h1) h2 (fun t ht _ => hq t ht) hWo.2.2.1.2.2 hd hlocks
  · exact W.lret B.exec B.bytes (B.returns.trans hok) (fun t ht _ => hq t ht) hWo.2.2.1.2.2 hd hlocks
  · obtain ⟨⟨rt, h1, h2⟩, -⟩ := hok
    refine W.aret (v := xt ρ' (.inr q)) B.exec B.bytes (B.returns.trans h1) h2 ?_ (fun t ht _ => hq t ht) hWo.2.2.1.2.2 hd hlocks
    rcases q with _ | q
    · exact Or.inl rfl
    · exact Or.inr ⟨_, rfl⟩
theorem xRet {p : Program} {l : Launch} {e : Env} {R : Room} {s : State} {m : MethodId} {args : Array Value} {below : List Frame} {meth : Method} {c : Code} {H : Heap} {locs : List Loc} {cells slots : Nat} {Qm : State → Prop} {pc : Nat} {ls : Array Slot} {rest st0 : List Value} {a : Array Value} {mc ms : Nat}
    {I : xD} {D : va_G} {A A1 : Nat → Prop} {ρ : xP} {Y : xY} {G : xG} {N : xM} {yret : Option FieldType} {KQ : Option xAV → xY → xG → xM → Prop}
    (hr : va_Run p l e R s m args below meth c H locs cells slots mc ms (F0 m pc ls st0) rest (xPost I D ρ Y A1 yret KQ a) A1) (Wo : xWo I D A s.heap H locs ρ Y G N) (hA1 : ∀ q, A1 q → A q)
    (kk : ∀ (r : Option xAV) (Y' : xY) (G' : xG) (N' : xM) (ρ' : xP) (H1 : Heap) (locs1 : List Loc), KQ r Y' G' N' → xOk yret Y' r → xWo I D A s.heap H1 locs1 ρ' Y' G' N' → xAg Y ρ Y' ρ' → W p l e R s m args below meth c H1 locs1 (cells + mc) (slots + ms) Qm (F0 m (pc + 3) ls (r.toList.map (xt ρ') ++ rest))) : W p l e R s m args below meth c H locs cells slots Qm (F0 m pc ls st0) := by
  intro T hT Xs
  obtain ⟨v, st₀, t, T', L, h0, X', hL, e1, e2, ⟨⟨r, Y', G', N', ρ', hv, hQ, hok, hP, hD, hZ, hAg⟩, hz, hk⟩, st⟩ := hr T hT Xs
  cases hv
  rw [h0] at hz hk
  have hS := Wo.2.2.1
  have hS' : va_S A s.heap T'.heap (locs ++ L) := ⟨Nat.le_trans hS.1 (by rw [e1]; exact hz), fun q h1 h2 => by rw [e1, hk q (Nat.lt_of_lt_of_le h1 hS.1) (fun z => h2 (hA1 q z))]; exact hS.2.1 q h1 h2, fun q hq => by
      rcases List.mem_append.mp hq with h | h
      · exact hS.2.2 q h
      · exact hA1 _ (hL q h)⟩
  obtain ⟨t2, a1, b1⟩ := kk r Y' G' N' ρ' T'.heap (locs ++ L) hQ hok ⟨by rw [e1]; exact hP, hD.weaken (fun _ _ _ h => hA1 _ h), hS', hZ⟩ hAg T' rfl X'
  refine ⟨t2, st t2 ?_, b1⟩
  have e9 : (r.map (xt ρ')).toList = r.toList.map (xt ρ') := by cases r <;> rfl
  rw [e9]
  exact a1
/-- what the tables say of a method -/
def xMd (y : MethodName) (cc : ByteArray) (nL : Nat) (ret : Option FieldType) (n : Nat) : Prop := plainName y.cls = true ∧ Cond.code y cc nL ret ∈ xWd ∧ Cond.initialized y.cls ∈ xWd ∧ (y.cls ≠ "java/lang/invoke/MethodHandle" ∧ y.cls ≠ "java/lang/invoke/VarHandle" ∧ (parseMethodDescriptor y.desc).map (fun d => d.parameters.length) = some n) ∧ nL ≤ 45
theorem xAg_trans {Ye Y Y' : xY} {ρe ρ ρ' : xP} (h1 : xAg Ye ρe Y ρ) (h2 : xAg Y ρ Y' ρ') : xAg Ye ρe Y' ρ' := ⟨fun q k h => ⟨((h2.1 q k (h1.1 q k h).2).1).trans (h1.1 q k h).1, (h2.1 q k (h1.1 q k h).2).2⟩, fun r c h => (h2.2 r c h).trans (h1.2 r c h)⟩
theorem xWo_rho {I : xD} {D : va_G} {A : Nat → Prop} {H0 H : Heap} {locs : List Loc} {ρ ρ' : xP} {Y : xY} {G : xG} {N : xM} (h : xWo I D A H0 H locs ρ' Y G N) (hAg : xAg Y ρ Y ρ') : xWo I D A H0 H locs ρ Y G N := by
  have e : xw I ρ' Y G N = xw I ρ Y G N := xw_rho (fun q k hq => (hAg.1 q k hq).1) h.2.2.2.2.1
  exact ⟨e ▸ h.1, e ▸ h.2.1, h.2.2.1, h.2.2.2⟩
theorem xt_rho {ρ ρ' : xP} {Y Y' : xY} {ret : Option FieldType} (hAg : xAg Y ρ Y' ρ') (hY : Y' = Y) {r : Option xAV} (hok : xOk ret Y' r) : r.toList.map (xt ρ') = r.toList.map (xt ρ) := by
  subst hY
  rcases r with _ | ((v | v) | (_ | q))
  · rfl
  · rfl
  · rfl
  · rfl
  · obtain ⟨-, h⟩ := hok
    obtain ⟨kd, hk⟩ := h q rfl
    show [Value.ref (ρ' q.1 q.2)] = [Value.ref (ρ q.1 q.2)]
    rw [(hAg.1 q kd hk).1]
section XR
variable {own : String} {ini : Bool} {cc : ByteArray} {nL : Nat} {ret : Option FieldType} {X : Option (Nat × (Nat → Int32))} {d : Nat} {b : Nat × Nat} {pc : Nat} {loc : List (Option xAV)} {st : List xAV} {Y : xY} {G : xG} {N : xM} {Q : Option xAV → xY → xG → xM → Prop}
  {y : MethodName} {ycc : ByteArray} {ynL : Nat} {yret : Option FieldType} {as : List xAV}
/-- what is common to all calls that make nothing -/
theorem xBack {p : Program} {l : Launch} {e : Env} {R : Room} {s : State} {m : MethodId} {args : Array Value} {below : List Frame} {meth : Method} {c : Code} {D : va_G} {I : xD} {A : Nat → Prop} {ρe : xP} {Ye : xY} {ρ : xP} {H : Heap} {locs : List Loc} {cells slots : Nat} {ls : Array Slot} {Qm : State → Prop} {a : Array Value} {st0 : List Value}
    (C : xCx own ini cc nL ret (d + 1) p R s m args meth c) (F : xFx I D A ρe X s) (Wo : xWo I D A s.heap H locs ρ Y G N) (Ag : xAg Ye ρe Y ρ) (hl : lv_has ls nL (xL ρ 0 loc) ∧ loc.length = nL) (hb : cells + b.1 ≤ R.cells ∧ slots + b.2 ≤ R.slots)
    (hE : ∀ (r : Option xAV) (Y' : xY) (G' : xG) (N' : xM) (ρ' : xP) (H' : Heap) (locs' : List Loc) (cells' slots' pc' : Nat) (ls' : Array Slot), Q r Y' G' N' → xOk ret Y' r → xWo I D A s.heap H' locs' ρ' Y' G' N' → xAg Ye ρe Y' ρ' → cells' ≤ R.cells ∧ slots' ≤ R.slots → decode cc pc' = .ok (xRi r, 1) → W p l e R s m args below meth c H' locs' cells' slots' Qm (F0 m pc' ls' (r.toList.map (xt ρ'))))
    (hr : va_Run p l e R s m args below meth c H locs cells slots 0 0 (F0 m pc ls st0) (st.map (xt ρ)) (xPost I D ρ Y (va_A (xw I ρ Y G N) H.size) yret (fun rv Y' G' N' => Y' = Y ∧ V own ini cc nL ret X (d + 1) b (pc + 3) loc (rv.toList ++ st) Y G' N' Q) a) (va_A (xw I ρ Y G N) H.size)) : W p l e R s m args below meth c H locs cells slots Qm (F0 m pc ls st0) := by
  refine xRet hr Wo (xfree Wo.2.1 Wo.2.2.1 F.2.2.2.2.1) ?_
  rintro r Y' G' N' ρ' H1 locs1 ⟨rfl, hV⟩ hok Wo' Ag'
  rw [xt_rho Ag' rfl hok, ← List.map_append]
  exact hV p l e R s m args below meth c D I A ρe Ye ρ H1 locs1 _ _ ls Qm C F (xWo_rho Wo' Ag') Ag hl hb hE
theorem V_iv {r c ci n idx : Nat} {T : u_T} (hd : decode cc pc = .ok (.invokevirtual idx, 3)) (hw : Cond.methodLink own idx y ∈ xWd) (hm : xMd y ycc ynL yret as.length) (hi : Cond.instanceMethod y ∈ xWd ∧ Cond.selects y.cls y y ∈ xWd) (hcl : vwCl[ci]? = some (y.cls, T, n)) (hY : ((r, c), (0, ci)) ∈ Y) (hst : st.length ≤ 4) (hlen : (xE (xR r c :: as)).length ≤ ynL)
    (hV : V y.cls false ycc ynL yret none d (0, 0) 0 (xE (xR r c :: as) ++ List.replicate (ynL - (xE (xR r c :: as)).length) none) [] Y G N (fun rv Y' G' N' => Y' = Y ∧ V own ini cc nL ret X (d + 1) b (pc + 3) loc (rv.toList ++ st) Y G' N' Q)) :
    V own ini cc nL ret X (d + 1) b pc loc (as.reverse ++ xR r c :: st) Y G N Q := by
  intro p l e R s m args below meth c0 D I A ρe Ye ρ H locs cells slots ls Qm C F Wo Ag hl hb hE
  obtain ⟨j, hj⟩ := List.getElem?_of_mem hY
  have hfr : d + 1 ≤ R.frames := C.2.2.2.2.2.2.2.1
  have hlo : 64 * (d + 1) ≤ R.locals := C.2.2.2.2.2.2.2.2.1
  have hts := C.2.2.2.2.2.2.1
  have hM := xMet (l := l) hm.1 hlen (fun h => by cases h) hV I D ρ H.size
  have e1 := xcat_le ρ st
  refine xBack C F Wo Ag hl hb hE (va_runV (Ts := xWd) (As := as.map (xt ρ)) (b := ρ r c) ⟨C.1, C.2.1, C.2.2.2.2.1, C.2.2.2.2.2.1, hts⟩ hM (cwV (ws' := xWd) as.length hts (xGood ?_) rfl rfl rfl ⟨rfl, hm.2.2.2.1⟩ ⟨?_, ?_⟩) ⟨xPre_blind, va_recv F.1 Wo.1 hcl (xw_get hj), fun U hU hW => ⟨rfl, by rw [hU], ?_, by rw [hU]; exact Wo.1, Wo.2.1.weaken (fun _ _ _ _ => trivial), Wo.2.2.2⟩⟩ rfl (List.length_map _) hl.1.1 ?_ ?_ hd ⟨Nat.le_trans (Nat.le_add_right _ _) hb.1, Nat.le_trans (Nat.le_add_right _ _) hb.2⟩)
  · intro w hw'
    simp only [wsV, List.mem_append, List.mem_cons, List.not_mem_nil, or_false] at hw'
    rcases hw' with (rfl | rfl | rfl | rfl) | rfl | h
    · exact hw
    · exact hi.1
    · exact hi.2
    · exact hm.2.2.1
    · exact hm.2.1
    · exact h
  · exact hfr
  · have := hm.2.2.2.2
    show 8 + (ynL + 11) + 64 * d ≤ R.locals
    omega
  · exact xFx_go (locs := locs) F hW.alike (xNest_warm hW) (by rw [hU]; exact Wo.2.2.1) (xfree Wo.2.1 Wo.2.2.1 F.2.2.2.2.1) (fun q hq => Or.inr (by rw [hU] at hq; exact hq)) (Ag.2 _ _ (by decide))
  · show (as.reverse ++ xR r c :: st).map (xt ρ) = _
    rw [List.map_append, List.map_reverse]
    rfl
  · show 2 * 0 + _ ≤ 8
    omega
end XR
