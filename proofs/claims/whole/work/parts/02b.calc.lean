/-! THE CALCULUS: V, a walk over the abstract world -/
def xWd : List Cond := lw_tbl.filter goodWord
theorem xWd_in {w : Cond} (h : w ∈ lw_tbl) (hg : goodWord w = true) : w ∈ xWd := List.mem_filter.mpr ⟨h, hg⟩
theorem xWd_good : GoodIn xWd xWd := fun w h => ⟨h, good_of_word (List.mem_filter.mp h).2⟩
def xIsNest : Cond → Bool
  | .methodLinkNest _ _ _ _ => true
  | _ => false
def xNest : List Cond := lw_tbl.filter xIsNest
/-- MarbleRun$Asker.PARENTS, as the Statement gives it -/
def xPar : Nat → Int32 := fun k => match k with
  | 0 => -1000000
  | 1 => 0
  | 2 => 1
  | 3 => 1
  | 4 => 0
  | _ => 4
def xAOA (t : FieldType) (U : State) : Prop := (Cond.arrayOver (.array t)).before #[] U = true
theorem xAOA_of {t : FieldType} {A : Array Value} {U : State} (h : (Cond.arrayOver (.array t)).before A U = true) : xAOA t U := h
theorem xAOA_use {t : FieldType} {A : Array Value} {U : State} (h : xAOA t U) : (Cond.arrayOver (.array t)).before A U = true := h
theorem xAOA_moved {t : FieldType} {u U : State} (hvm : u.vm.Alike U.vm) (h : xAOA t u) : xAOA t U := by
  obtain ⟨comp, c, k, h1, h2, h3, h4, h5⟩ := arrayOverA_spec h
  obtain ⟨k', hk', he⟩ := hvm.2.2 _ _ h3
  have hi : (U.vm.classes.findIdx? fun (x : Class) => match x.kind with | .array component _ => component == comp | _ => false) = some c := by
    have e1 := va_idx_bare U.vm comp
    have e2 := va_idx_bare u.vm comp
    have e3 : U.vm.bare = u.vm.bare := by first | exact hvm.bare_eq | exact hvm.bare_eq.symm
    rw [e3] at e1
    exact e1.symm.trans (e2.trans h2)
  have hkind : k'.kind = .array comp (.array t) := by rw [he]; exact h4
  have f1 : U.vm.findClass (FieldType.array t).toString = some comp := by rw [hvm.findClass]; exact h1
  have f2 : U.vm.findClass ("[" ++ (FieldType.array t).toString) = some c := by rw [hvm.findClass]; exact h5
  unfold xAOA Cond.before Cond.holds
  simp only [Cond.value]
  rw [f1, Option.bind_some]
  refine (congrArg (fun o : Option Nat => (o.bind (fun c => (U.vm.classes[c]?).map fun (k : Class) => match k.kind with | .array _ ty => decide (ty = FieldType.array t) && decide (U.vm.findClass ("[" ++ (FieldType.array t).toString) = some c) | _ => false) == some true)) hi).trans ?_
  simp [hk', hkind, f2]
def xTys (I : xD) : List (ClassId × FieldType) := [(I.1, .int), (I.2.1, .boolean), (I.2.2.1, .object "MarbleRun$Track"), (I.2.2.2, .array .int)]
def xCx (own : String) (ini : Bool) (cc : ByteArray) (nL : Nat) (ret : Option FieldType) (d : Nat) (p : Program) (R : Room) (s : State) (m : MethodId) (args : Array Value) (meth : Method) (c : Code) : Prop :=
  p.tables.exec = Jvm.exec ∧ c.code = cc ∧ meth.sig.returnType = ret ∧ meth.locks = false ∧ c.maxLocals = nL ∧ s.vm.findClass own = some m.cls ∧ (∀ w ∈ xWd, w.before args s = true) ∧ d ≤ R.frames ∧ 64 * d ≤ R.locals ∧ (ini = true → meth.name = "<init>")
/-- what holds of the start's state all along: classes, array classes, the script, PARENTS -/
def xFx (I : xD) (D : va_G) (A : Nat → Prop) (ρe : xP) (X : Option (Nat × (Nat → Int32))) (s : State) : Prop :=
  va_K D vwCl (xTys I) s ∧ va_AO "MarbleRun$Track" s ∧ xAOA .int s ∧ (∀ w ∈ xNest, va_Nw w s) ∧ (∀ q, s.heap.size ≤ q → A q) ∧
  va_Z "MarbleRun$Asker" "PARENTS" "[I" (.ref (ρe 1000001 0)) A s s.heap ∧ va_T .int (ρe 1000001 0) 6 (fun j => .int (xPar j)) A s s.heap ∧
  (∀ L xs, X = some (L, xs) → va_X (ρe 1000000 0) L xs s s.heap ∧ ρe 1000000 0 < s.heap.size ∧ ¬ A (ρe 1000000 0))
def xZe (Y : xY) (G : xG) (N : xM) : Prop := (∀ r c, (∀ k, ((r, c), k) ∉ Y) → N r c = (fun _ => 0) ∧ G r c = fun _ => none) ∧ (∀ r c k q, G r c k = some q → ∃ kd, (q, kd) ∈ Y) ∧ ∀ q k, (q, k) ∈ Y → q.1 < 1000000
def xWo (I : xD) (D : va_G) (A : Nat → Prop) (H0 H : Heap) (locs : List Loc) (ρ : xP) (Y : xY) (G : xG) (N : xM) : Prop :=
  va_P D vwCl (xw I ρ Y G N) H ∧ va_D A (xw I ρ Y G N) ∧ va_S A H0 H locs ∧ xZe Y G N
def xAg (Ye : xY) (ρe : xP) (Y : xY) (ρ : xP) : Prop := (∀ q k, (q, k) ∈ Ye → ρ q.1 q.2 = ρe q.1 q.2 ∧ (q, k) ∈ Y) ∧ ∀ r c, 1000000 ≤ r → ρ r c = ρe r c
/-- an answer as the method's descriptor has it -/
def xOk (ret : Option FieldType) (Y : xY) : Option xAV → Prop
  | none => ret = none
  | some (.inl (.inl v)) => ∃ ty, ret = some ty ∧ narrow ty (.int v) = .int v
  | some (.inl (.inr _)) => ret = some .long
  | some (.inr q) => (∃ rt, ret = some rt ∧ ((∃ n, rt = .object n) ∨ ∃ t, rt = .array t)) ∧ ∀ a, q = some a → ∃ kd, (a, kd) ∈ Y
def xRi : Option xAV → Instr
  | none => .return_
  | some (.inl (.inl _)) => .ireturn
  | some (.inl (.inr _)) => .lreturn
  | some (.inr _) => .areturn
def V (own : String) (ini : Bool) (cc : ByteArray) (nL : Nat) (ret : Option FieldType) (X : Option (Nat × (Nat → Int32))) (d : Nat) (b : Nat × Nat) (pc : Nat) (loc : List (Option xAV)) (st : List xAV) (Y : xY) (G : xG) (N : xM) (Q : Option xAV → xY → xG → xM → Prop) : Prop :=
  ∀ (p : Program) (l : Launch) (e : Env) (R : Room) (s : State) (m : MethodId) (args : Array Value) (below : List Frame) (meth : Method) (c : Code) (D : va_G) (I : xD) (A : Nat → Prop) (ρe : xP) (Ye : xY) (ρ : xP) (H : Heap) (locs : List Loc) (cells slots : Nat) (ls : Array Slot) (Qm : State → Prop),
    xCx own ini cc nL ret d p R s m args meth c → xFx I D A ρe X s → xWo I D A s.heap H locs ρ Y G N → xAg Ye ρe Y ρ → lv_has ls nL (xL ρ 0 loc) ∧ loc.length = nL → cells + b.1 ≤ R.cells ∧ slots + b.2 ≤ R.slots →
    (∀ (r : Option xAV) (Y' : xY) (G' : xG) (N' : xM) (ρ' : xP) (H' : Heap) (locs' : List Loc) (cells' slots' pc' : Nat) (ls' : Array Slot), Q r Y' G' N' → xOk ret Y' r → xWo I D A s.heap H' locs' ρ' Y' G' N' → xAg Ye ρe Y' ρ' → cells' ≤ R.cells ∧ slots' ≤ R.slots → decode cc pc' = .ok (xRi r, 1) →
      W p l e R s m args below meth c H' locs' cells' slots' Qm (F0 m pc' ls' (r.toList.map (xt ρ')))) →
    W p l e R s m args below meth c H locs cells slots Qm (F0 m pc ls (st.map (xt ρ)))
theorem V.mono {own : String} {ini : Bool} {cc : ByteArray} {nL : Nat} {ret : Option FieldType} {X : Option (Nat × (Nat → Int32))} {d : Nat} {b : Nat × Nat} {pc : Nat} {loc : List (Option xAV)} {st : List xAV} {Y : xY} {G : xG} {N : xM} {Q Q' : Option xAV → xY → xG → xM → Prop}
    (h : V own ini cc nL ret X d b pc loc st Y G N Q) (hq : ∀ r Y' G' N', Q r Y' G' N' → Q' r Y' G' N') : V own ini cc nL ret X d b pc loc st Y G N Q' := by
  intro p l e R s m args below meth c D I A ρe Ye ρ H locs cells slots ls Qm C F Wo Ag hl hb hE
  exact h p l e R s m args below meth c D I A ρe Ye ρ H locs cells slots ls Qm C F Wo Ag hl hb (fun r Y' G' N' ρ' H' locs' cells' slots' pc' ls' q => hE r Y' G' N' ρ' H' locs' cells' slots' pc' ls' (hq r Y' G' N' q))
section XR
variable {own : String} {ini : Bool} {cc : ByteArray} {nL : Nat} {ret : Option FieldType} {X : Option (Nat × (Nat → Int32))} {d : Nat} {b : Nat × Nat} {pc : Nat} {loc : List (Option xAV)} {st : List xAV} {Y : xY} {G : xG} {N : xM} {Q : Option xAV → xY → xG → xM → Prop}
theorem V_iconst {n : Int} {v : Int32} (hd : decode cc pc = .ok (.iconst n, 1)) (hv : Int32.ofInt n = v) (k : V own ini cc nL ret X d b (pc + 1) loc (xI v :: st) Y G N Q) : V own ini cc nL ret X d b pc loc st Y G N Q := by
  intro p l e R s m args below meth c D I A ρe Ye ρ H locs cells slots ls Qm C F Wo Ag hl hb hE
  exact lv_iconst C.1 C.2.1 hd hv (k p l e R s m args below meth c D I A ρe Ye ρ H locs cells slots ls Qm C F Wo Ag hl hb hE)
theorem V_bipush {n : Int} {v : Int32} (hd : decode cc pc = .ok (.bipush n, 2)) (hv : (Int8.ofInt n).toInt32 = v) (k : V own ini cc nL ret X d b (pc + 2) loc (xI v :: st) Y G N Q) : V own ini cc nL ret X d b pc loc st Y G N Q := by
  intro p l e R s m args below meth c D I A ρe Ye ρ H locs cells slots ls Qm C F Wo Ag hl hb hE
  exact lv_bipush C.1 C.2.1 hd hv (k p l e R s m args below meth c D I A ρe Ye ρ H locs cells slots ls Qm C F Wo Ag hl hb hE)
theorem V_sipush {n : Int} {v : Int32} (hd : decode cc pc = .ok (.sipush n, 3)) (hv : (Int16.ofInt n).toInt32 = v) (k : V own ini cc nL ret X d b (pc + 3) loc (xI v :: st) Y G N Q) : V own ini cc nL ret X d b pc loc st Y G N Q := by
  intro p l e R s m args below meth c D I A ρe Ye ρ H locs cells slots ls Qm C F Wo Ag hl hb hE
  exact lv_sipush C.1 C.2.1 hd hv (k p l e R s m args below meth c D I A ρe Ye ρ H locs cells slots ls Qm C F Wo Ag hl hb hE)
theorem V_lconst {n : Fin 2} {v : Int64} (hd : decode cc pc = .ok (.lconst n, 1)) (hv : Int64.ofNat (n : Nat) = v) (k : V own ini cc nL ret X d b (pc + 1) loc (xJ v :: st) Y G N Q) : V own ini cc nL ret X d b pc loc st Y G N Q := by
  intro p l e R s m args below meth c D I A ρe Ye ρ H locs cells slots ls Qm C F Wo Ag hl hb hE
  exact lv_lconst C.1 C.2.1 hd hv (k p l e R s m args below meth c D I A ρe Ye ρ H locs cells slots ls Qm C F Wo Ag hl hb hE)
theorem V_ldc {i : Nat} {v : Int32} (hd : decode cc pc = .ok (.ldc i, 2)) (hw : Cond.constant own i v ∈ xWd) (k : V own ini cc nL ret X d b (pc + 2) loc (xI v :: st) Y G N Q) : V own ini cc nL ret X d b pc loc st Y G N Q := by
  intro p l e R s m args below meth c D I A ρe Ye ρ H locs cells slots ls Qm C F Wo Ag hl hb hE
  exact lv_ldc C.1 C.2.1 C.2.2.2.2.2.1 (C.2.2.2.2.2.2.1 _ hw) hd (k p l e R s m args below meth c D I A ρe Ye ρ H locs cells slots ls Qm C F Wo Ag hl hb hE)
theorem V_ldc_w {i : Nat} {v : Int32} (hd : decode cc pc = .ok (.ldc_w i, 3)) (hw : Cond.constant own i v ∈ xWd) (k : V own ini cc nL ret X d b (pc + 3) loc (xI v :: st) Y G N Q) : V own ini cc nL ret X d b pc loc st Y G N Q := by
  intro p l e R s m args below meth c D I A ρe Ye ρ H locs cells slots ls Qm C F Wo Ag hl hb hE
  exact lv_ldcw C.1 C.2.1 C.2.2.2.2.2.1 (C.2.2.2.2.2.2.1 _ hw) hd (k p l e R s m args below meth c D I A ρe Ye ρ H locs cells slots ls Qm C F Wo Ag hl hb hE)
theorem V_ldc2 {i : Nat} {v : Int64} (hd : decode cc pc = .ok (.ldc2_w i, 3)) (hw : Cond.constantLong own i v ∈ xWd) (k : V own ini cc nL ret X d b (pc + 3) loc (xJ v :: st) Y G N Q) : V own ini cc nL ret X d b pc loc st Y G N Q := by
  intro p l e R s m args below meth c D I A ρe Ye ρ H locs cells slots ls Qm C F Wo Ag hl hb hE
  exact lv_ldc2 C.1 C.2.1 C.2.2.2.2.2.1 (C.2.2.2.2.2.2.1 _ hw) hd (k p l e R s m args below meth c D I A ρe Ye ρ H locs cells slots ls Qm C F Wo Ag hl hb hE)
theorem V_null  (hd : decode cc pc = .ok (.aconst_null, 1)) (k : V own ini cc nL ret X d b (pc + 1) loc (xN :: st) Y G N Q) : V own ini cc nL ret X d b pc loc st Y G N Q := by
  intro p l e R s m args below meth c D I A ρe Ye ρ H locs cells slots ls Qm C F Wo Ag hl hb hE
  exact lv_null C.1 C.2.1 hd (k p l e R s m args below meth c D I A ρe Ye ρ H locs cells slots ls Qm C F Wo Ag hl hb hE)
theorem V_iload_n {i : Fin 4} {x : Int32} (hd : decode cc pc = .ok (.iload_n i, 1)) (hx : loc[(i : Nat)]? = some (some (xI x))) (k : V own ini cc nL ret X d b (pc + 1) loc (xI x :: st) Y G N Q) : V own ini cc nL ret X d b pc loc st Y G N Q := by
  intro p l e R s m args below meth c D I A ρe Ye ρ H locs cells slots ls Qm C F Wo Ag hl hb hE
  exact lv_iload_n C.1 C.2.1 hd rfl (xL_at hl.1 hx) (k p l e R s m args below meth c D I A ρe Ye ρ H locs cells slots ls Qm C F Wo Ag hl hb hE)
theorem V_iload {i : Nat} {x : Int32} (hd : decode cc pc = .ok (.iload i, 2)) (hx : loc[i]? = some (some (xI x))) (k : V own ini cc nL ret X d b (pc + 2) loc (xI x :: st) Y G N Q) : V own ini cc nL ret X d b pc loc st Y G N Q := by
  intro p l e R s m args below meth c D I A ρe Ye ρ H locs cells slots ls Qm C F Wo Ag hl hb hE
  exact lv_iload C.1 C.2.1 hd (xL_at hl.1 hx) (k p l e R s m args below meth c D I A ρe Ye ρ H locs cells slots ls Qm C F Wo Ag hl hb hE)
theorem V_lload_n {i : Fin 4} {x : Int64} (hd : decode cc pc = .ok (.lload_n i, 1)) (hx : loc[(i : Nat)]? = some (some (xJ x))) (k : V own ini cc nL ret X d b (pc + 1) loc (xJ x :: st) Y G N Q) : V own ini cc nL ret X d b pc loc st Y G N Q := by
  intro p l e R s m args below meth c D I A ρe Ye ρ H locs cells slots ls Qm C F Wo Ag hl hb hE
  exact lv_lload_n C.1 C.2.1 hd rfl (xL_at hl.1 hx) (k p l e R s m args below meth c D I A ρe Ye ρ H locs cells slots ls Qm C F Wo Ag hl hb hE)
theorem V_lload {i : Nat} {x : Int64} (hd : decode cc pc = .ok (.lload i, 2)) (hx : loc[i]? = some (some (xJ x))) (k : V own ini cc nL ret X d b (pc + 2) loc (xJ x :: st) Y G N Q) : V own ini cc nL ret X d b pc loc st Y G N Q := by
  intro p l e R s m args below meth c D I A ρe Ye ρ H locs cells slots ls Qm C F Wo Ag hl hb hE
  exact lv_lload C.1 C.2.1 hd (xL_at hl.1 hx) (k p l e R s m args below meth c D I A ρe Ye ρ H locs cells slots ls Qm C F Wo Ag hl hb hE)
theorem V_aload_n {i : Fin 4} {r c : Nat} (hd : decode cc pc = .ok (.aload_n i, 1)) (hx : loc[(i : Nat)]? = some (some (xR r c))) (k : V own ini cc nL ret X d b (pc + 1) loc (xR r c :: st) Y G N Q) : V own ini cc nL ret X d b pc loc st Y G N Q := by
  intro p l e R s m args below meth c D I A ρe Ye ρ H locs cells slots ls Qm C F Wo Ag hl hb hE
  exact lv_aload_n C.1 C.2.1 hd rfl (xL_at hl.1 hx) (k p l e R s m args below meth c D I A ρe Ye ρ H locs cells slots ls Qm C F Wo Ag hl hb hE)
theorem V_aload {i : Nat} {r c : Nat} (hd : decode cc pc = .ok (.aload i, 2)) (hx : loc[i]? = some (some (xR r c))) (k : V own ini cc nL ret X d b (pc + 2) loc (xR r c :: st) Y G N Q) : V own ini cc nL ret X d b pc loc st Y G N Q := by
  intro p l e R s m args below meth c D I A ρe Ye ρ H locs cells slots ls Qm C F Wo Ag hl hb hE
  exact lv_aload C.1 C.2.1 hd (xL_at hl.1 hx) (k p l e R s m args below meth c D I A ρe Ye ρ H locs cells slots ls Qm C F Wo Ag hl hb hE)
theorem V_istore_n {i : Fin 4} {x : Int32} (hd : decode cc pc = .ok (.istore_n i, 1)) (hi : (i : Nat) < loc.length) (hp : ∀ x, loc[(i : Nat) - 1]? = some (some (xJ x)) → (i : Nat) = 0) (k : V own ini cc nL ret X d b (pc + 1) (loc.set (i : Nat) (some (xI x))) st Y G N Q) : V own ini cc nL ret X d b pc loc ((xI x) :: st) Y G N Q := by
  intro p l e R s m args below meth c D I A ρe Ye ρ H locs cells slots ls Qm C F Wo Ag hl hb hE
  exact lv_istore_n C.1 C.2.1 hd rfl hl.1 (by rw [← hl.2]; exact hi) rfl (fun ls' hl' => k p l e R s m args below meth c D I A ρe Ye ρ H locs cells slots ls' Qm C F Wo Ag ⟨lv_less hl' (xL_set1 (v := (xI x)) hi hp), (by rw [List.length_set]; exact hl.2)⟩ hb hE)
theorem V_istore {i : Nat} {x : Int32} (hd : decode cc pc = .ok (.istore i, 2)) (hi : i < loc.length) (hp : ∀ x, loc[i - 1]? = some (some (xJ x)) → i = 0) (k : V own ini cc nL ret X d b (pc + 2) (loc.set i (some (xI x))) st Y G N Q) : V own ini cc nL ret X d b pc loc ((xI x) :: st) Y G N Q := by
  intro p l e R s m args below meth c D I A ρe Ye ρ H locs cells slots ls Qm C F Wo Ag hl hb hE
  exact lv_istore C.1 C.2.1 hd hl.1 (by rw [← hl.2]; exact hi) rfl (fun ls' hl' => k p l e R s m args below meth c D I A ρe Ye ρ H locs cells slots ls' Qm C F Wo Ag ⟨lv_less hl' (xL_set1 (v := (xI x)) hi hp), (by rw [List.length_set]; exact hl.2)⟩ hb hE)
theorem V_lstore_n {i : Fin 4} {x : Int64} (hd : decode cc pc = .ok (.lstore_n i, 1)) (hi : (i : Nat) + 1 < loc.length) (hp : ∀ x, loc[(i : Nat) - 1]? = some (some (xJ x)) → (i : Nat) = 0) (k : V own ini cc nL ret X d b (pc + 1) ((loc.set (i : Nat) (some (xJ x))).set ((i : Nat) + 1) none) st Y G N Q) : V own ini cc nL ret X d b pc loc ((xJ x) :: st) Y G N Q := by
  intro p l e R s m args below meth c D I A ρe Ye ρ H locs cells slots ls Qm C F Wo Ag hl hb hE
  exact lv_lstore_n C.1 C.2.1 hd rfl hl.1 (by rw [← hl.2]; exact hi) rfl (fun ls' hl' => k p l e R s m args below meth c D I A ρe Ye ρ H locs cells slots ls' Qm C F Wo Ag ⟨lv_less hl' (xL_set2 (v := (xJ x)) hi hp), (by rw [List.length_set, List.length_set]; exact hl.2)⟩ hb hE)
theorem V_lstore {i : Nat} {x : Int64} (hd : decode cc pc = .ok (.lstore i, 2)) (hi : i + 1 < loc.length) (hp : ∀ x, loc[i - 1]? = some (some (xJ x)) → i = 0) (k : V own ini cc nL ret X d b (pc + 2) ((loc.set i (some (xJ x))).set (i + 1) none) st Y G N Q) : V own ini cc nL ret X d b pc loc ((xJ x) :: st) Y G N Q := by
  intro p l e R s m args below meth c D I A ρe Ye ρ H locs cells slots ls Qm C F Wo Ag hl hb hE
  exact lv_lstore C.1 C.2.1 hd hl.1 (by rw [← hl.2]; exact hi) rfl (fun ls' hl' => k p l e R s m args below meth c D I A ρe Ye ρ H locs cells slots ls' Qm C F Wo Ag ⟨lv_less hl' (xL_set2 (v := (xJ x)) hi hp), (by rw [List.length_set, List.length_set]; exact hl.2)⟩ hb hE)
theorem V_astore_n {i : Fin 4} {r q : Nat} (hd : decode cc pc = .ok (.astore_n i, 1)) (hi : (i : Nat) < loc.length) (hp : ∀ x, loc[(i : Nat) - 1]? = some (some (xJ x)) → (i : Nat) = 0) (k : V own ini cc nL ret X d b (pc + 1) (loc.set (i : Nat) (some (xR r q))) st Y G N Q) : V own ini cc nL ret X d b pc loc ((xR r q) :: st) Y G N Q := by
  intro p l e R s m args below meth c D I A ρe Ye ρ H locs cells slots ls Qm C F Wo Ag hl hb hE
  exact lv_astore_n C.1 C.2.1 hd rfl hl.1 (by rw [← hl.2]; exact hi) rfl (fun ls' hl' => k p l e R s m args below meth c D I A ρe Ye ρ H locs cells slots ls' Qm C F Wo Ag ⟨lv_less hl' (xL_set1 (v := (xR r q)) hi hp), (by rw [List.length_set]; exact hl.2)⟩ hb hE)
theorem V_astore {i : Nat} {r q : Nat} (hd : decode cc pc = .ok (.astore i, 2)) (hi : i < loc.length) (hp : ∀ x, loc[i - 1]? = some (some (xJ x)) → i = 0) (k : V own ini cc nL ret X d b (pc + 2) (loc.set i (some (xR r q))) st Y G N Q) : V own ini cc nL ret X d b pc loc ((xR r q) :: st) Y G N Q := by
  intro p l e R s m args below meth c D I A ρe Ye ρ H locs cells slots ls Qm C F Wo Ag hl hb hE
  exact lv_astore C.1 C.2.1 hd hl.1 (by rw [← hl.2]; exact hi) rfl (fun ls' hl' => k p l e R s m args below meth c D I A ρe Ye ρ H locs cells slots ls' Qm C F Wo Ag ⟨lv_less hl' (xL_set1 (v := (xR r q)) hi hp), (by rw [List.length_set]; exact hl.2)⟩ hb hE)
theorem V_iinc {i : Nat} {n : Int} {x v : Int32} (hd : decode cc pc = .ok (.iinc i n, 3)) (hx : loc[i]? = some (some (xI x))) (hv : x + Int32.ofInt n = v) (hp : ∀ x, loc[i - 1]? = some (some (xJ x)) → i = 0) (k : V own ini cc nL ret X d b (pc + 3) (loc.set i (some (xI v))) st Y G N Q) : V own ini cc nL ret X d b pc loc st Y G N Q := by
  intro p l e R s m args below meth c D I A ρe Ye ρ H locs cells slots ls Qm C F Wo Ag hl hb hE
  have hi : i < loc.length := (List.getElem?_eq_some_iff.mp hx).1
  obtain ⟨j, hj⟩ := List.getElem?_of_mem ((xL_mem (ρ := ρ) (i := 0)).mpr ⟨xI x, Nat.zero_le _, hx, rfl⟩)
  exact lv_iinc C.1 C.2.1 hd hl.1 hj hv (by rw [← hl.2]; exact hi) rfl (fun ls' hl' => k p l e R s m args below meth c D I A ρe Ye ρ H locs cells slots ls' Qm C F Wo Ag ⟨lv_less hl' (xL_set1 (v := xI v) hi hp), by rw [List.length_set]; exact hl.2⟩ hb hE)
theorem V_iadd {x y : Int32} (hd : decode cc pc = .ok (.iadd, 1)) (k : V own ini cc nL ret X d b (pc + 1) loc (xI (x + y) :: st) Y G N Q) : V own ini cc nL ret X d b pc loc (xI y :: xI x :: st) Y G N Q := by
  intro p l e R s m args below meth c D I A ρe Ye ρ H locs cells slots ls Qm C F Wo Ag hl hb hE
  exact lv_iadd C.1 C.2.1 hd (k p l e R s m args below meth c D I A ρe Ye ρ H locs cells slots ls Qm C F Wo Ag hl hb hE)
theorem V_isub {x y : Int32} (hd : decode cc pc = .ok (.isub, 1)) (k : V own ini cc nL ret X d b (pc + 1) loc (xI (x - y) :: st) Y G N Q) : V own ini cc nL ret X d b pc loc (xI y :: xI x :: st) Y G N Q := by
  intro p l e R s m args below meth c D I A ρe Ye ρ H locs cells slots ls Qm C F Wo Ag hl hb hE
  exact lv_isub C.1 C.2.1 hd (k p l e R s m args below meth c D I A ρe Ye ρ H locs cells slots ls Qm C F Wo Ag hl hb hE)
theorem V_imul {x y : Int32} (hd : decode cc pc = .ok (.imul, 1)) (k : V own ini cc nL ret X d b (pc + 1) loc (xI (x * y) :: st) Y G N Q) : V own ini cc nL ret X d b pc loc (xI y :: xI x :: st) Y G N Q := by
  intro p l e R s m args below meth c D I A ρe Ye ρ H locs cells slots ls Qm C F Wo Ag hl hb hE
  exact lv_imul C.1 C.2.1 hd (k p l e R s m args below meth c D I A ρe Ye ρ H locs cells slots ls Qm C F Wo Ag hl hb hE)
theorem V_iand {x y : Int32} (hd : decode cc pc = .ok (.iand, 1)) (k : V own ini cc nL ret X d b (pc + 1) loc (xI (x &&& y) :: st) Y G N Q) : V own ini cc nL ret X d b pc loc (xI y :: xI x :: st) Y G N Q := by
  intro p l e R s m args below meth c D I A ρe Ye ρ H locs cells slots ls Qm C F Wo Ag hl hb hE
  exact lv_iand C.1 C.2.1 hd (k p l e R s m args below meth c D I A ρe Ye ρ H locs cells slots ls Qm C F Wo Ag hl hb hE)
theorem V_ior {x y : Int32} (hd : decode cc pc = .ok (.ior, 1)) (k : V own ini cc nL ret X d b (pc + 1) loc (xI (x ||| y) :: st) Y G N Q) : V own ini cc nL ret X d b pc loc (xI y :: xI x :: st) Y G N Q := by
  intro p l e R s m args below meth c D I A ρe Ye ρ H locs cells slots ls Qm C F Wo Ag hl hb hE
  exact lv_ior C.1 C.2.1 hd (k p l e R s m args below meth c D I A ρe Ye ρ H locs cells slots ls Qm C F Wo Ag hl hb hE)
theorem V_ixor {x y : Int32} (hd : decode cc pc = .ok (.ixor, 1)) (k : V own ini cc nL ret X d b (pc + 1) loc (xI (x ^^^ y) :: st) Y G N Q) : V own ini cc nL ret X d b pc loc (xI y :: xI x :: st) Y G N Q := by
  intro p l e R s m args below meth c D I A ρe Ye ρ H locs cells slots ls Qm C F Wo Ag hl hb hE
  exact lv_ixor C.1 C.2.1 hd (k p l e R s m args below meth c D I A ρe Ye ρ H locs cells slots ls Qm C F Wo Ag hl hb hE)
theorem V_ishl {x y : Int32} (hd : decode cc pc = .ok (.ishl, 1)) (k : V own ini cc nL ret X d b (pc + 1) loc (xI (x <<< (y &&& 31)) :: st) Y G N Q) : V own ini cc nL ret X d b pc loc (xI y :: xI x :: st) Y G N Q := by
  intro p l e R s m args below meth c D I A ρe Ye ρ H locs cells slots ls Qm C F Wo Ag hl hb hE
  exact lv_ishl C.1 C.2.1 hd (k p l e R s m args below meth c D I A ρe Ye ρ H locs cells slots ls Qm C F Wo Ag hl hb hE)
theorem V_ishr {x y : Int32} (hd : decode cc pc = .ok (.ishr, 1)) (k : V own ini cc nL ret X d b (pc + 1) loc (xI (x >>> (y &&& 31)) :: st) Y G N Q) : V own ini cc nL ret X d b pc loc (xI y :: xI x :: st) Y G N Q := by
  intro p l e R s m args below meth c D I A ρe Ye ρ H locs cells slots ls Qm C F Wo Ag hl hb hE
  exact lv_ishr C.1 C.2.1 hd (k p l e R s m args below meth c D I A ρe Ye ρ H locs cells slots ls Qm C F Wo Ag hl hb hE)
theorem V_iushr {x y : Int32} (hd : decode cc pc = .ok (.iushr, 1)) (k : V own ini cc nL ret X d b (pc + 1) loc (xI ((x.toUInt32 >>> (y.toUInt32 &&& Int32.toUInt32 31)).toInt32) :: st) Y G N Q) : V own ini cc nL ret X d b pc loc (xI y :: xI x :: st) Y G N Q := by
  intro p l e R s m args below meth c D I A ρe Ye ρ H locs cells slots ls Qm C F Wo Ag hl hb hE
  exact lv_iushr C.1 C.2.1 hd rfl (k p l e R s m args below meth c D I A ρe Ye ρ H locs cells slots ls Qm C F Wo Ag hl hb hE)
theorem V_idiv {x y : Int32} (hd : decode cc pc = .ok (.idiv, 1)) (hne : ¬ y = 0) (k : V own ini cc nL ret X d b (pc + 1) loc (xI (x / y) :: st) Y G N Q) : V own ini cc nL ret X d b pc loc (xI y :: xI x :: st) Y G N Q := by
  intro p l e R s m args below meth c D I A ρe Ye ρ H locs cells slots ls Qm C F Wo Ag hl hb hE
  exact lv_idiv C.1 C.2.1 hd hne (k p l e R s m args below meth c D I A ρe Ye ρ H locs cells slots ls Qm C F Wo Ag hl hb hE)
theorem V_irem {x y : Int32} (hd : decode cc pc = .ok (.irem, 1)) (hne : ¬ y = 0) (k : V own ini cc nL ret X d b (pc + 1) loc (xI (x - x / y * y) :: st) Y G N Q) : V own ini cc nL ret X d b pc loc (xI y :: xI x :: st) Y G N Q := by
  intro p l e R s m args below meth c D I A ρe Ye ρ H locs cells slots ls Qm C F Wo Ag hl hb hE
  exact lv_irem C.1 C.2.1 hd hne (k p l e R s m args below meth c D I A ρe Ye ρ H locs cells slots ls Qm C F Wo Ag hl hb hE)
theorem V_ineg {x : Int32} (hd : decode cc pc = .ok (.ineg, 1)) (k : V own ini cc nL ret X d b (pc + 1) loc (xI (-x) :: st) Y G N Q) : V own ini cc nL ret X d b pc loc (xI x :: st) Y G N Q := by
  intro p l e R s m args below meth c D I A ρe Ye ρ H locs cells slots ls Qm C F Wo Ag hl hb hE
  exact lv_ineg C.1 C.2.1 hd (k p l e R s m args below meth c D I A ρe Ye ρ H locs cells slots ls Qm C F Wo Ag hl hb hE)
theorem V_ladd {x y : Int64} (hd : decode cc pc = .ok (.ladd, 1)) (k : V own ini cc nL ret X d b (pc + 1) loc (xJ (x + y) :: st) Y G N Q) : V own ini cc nL ret X d b pc loc (xJ y :: xJ x :: st) Y G N Q := by
  intro p l e R s m args below meth c D I A ρe Ye ρ H locs cells slots ls Qm C F Wo Ag hl hb hE
  exact lv_ladd C.1 C.2.1 hd (k p l e R s m args below meth c D I A ρe Ye ρ H locs cells slots ls Qm C F Wo Ag hl hb hE)
theorem V_lmul {x y : Int64} (hd : decode cc pc = .ok (.lmul, 1)) (k : V own ini cc nL ret X d b (pc + 1) loc (xJ (x * y) :: st) Y G N Q) : V own ini cc nL ret X d b pc loc (xJ y :: xJ x :: st) Y G N Q := by
  intro p l e R s m args below meth c D I A ρe Ye ρ H locs cells slots ls Qm C F Wo Ag hl hb hE
  exact lv_lmul C.1 C.2.1 hd (k p l e R s m args below meth c D I A ρe Ye ρ H locs cells slots ls Qm C F Wo Ag hl hb hE)
theorem V_ldiv {x y : Int64} (hd : decode cc pc = .ok (.ldiv, 1)) (hne : ¬ y = 0) (k : V own ini cc nL ret X d b (pc + 1) loc (xJ (x / y) :: st) Y G N Q) : V own ini cc nL ret X d b pc loc (xJ y :: xJ x :: st) Y G N Q := by
  intro p l e R s m args below meth c D I A ρe Ye ρ H locs cells slots ls Qm C F Wo Ag hl hb hE
  exact lv_ldiv C.1 C.2.1 hd hne (k p l e R s m args below meth c D I A ρe Ye ρ H locs cells slots ls Qm C F Wo Ag hl hb hE)
theorem V_lrem {x y : Int64} (hd : decode cc pc = .ok (.lrem, 1)) (hne : ¬ y = 0) (k : V own ini cc nL ret X d b (pc + 1) loc (xJ (x - x / y * y) :: st) Y G N Q) : V own ini cc nL ret X d b pc loc (xJ y :: xJ x :: st) Y G N Q := by
  intro p l e R s m args below meth c D I A ρe Ye ρ H locs cells slots ls Qm C F Wo Ag hl hb hE
  exact lv_lrem C.1 C.2.1 hd hne (k p l e R s m args below meth c D I A ρe Ye ρ H locs cells slots ls Qm C F Wo Ag hl hb hE)
theorem V_lcmp {x y : Int64} (hd : decode cc pc = .ok (.lcmp, 1)) (k : V own ini cc nL ret X d b (pc + 1) loc (xI (lg_cmp x y) :: st) Y G N Q) : V own ini cc nL ret X d b pc loc (xJ y :: xJ x :: st) Y G N Q := by
  intro p l e R s m args below meth c D I A ρe Ye ρ H locs cells slots ls Qm C F Wo Ag hl hb hE
  exact W.lcmp C.1 C.2.1 hd (k p l e R s m args below meth c D I A ρe Ye ρ H locs cells slots ls Qm C F Wo Ag hl hb hE)
theorem V_i2l {x : Int32} (hd : decode cc pc = .ok (.i2l, 1)) (k : V own ini cc nL ret X d b (pc + 1) loc (xJ x.toInt64 :: st) Y G N Q) : V own ini cc nL ret X d b pc loc (xI x :: st) Y G N Q := by
  intro p l e R s m args below meth c D I A ρe Ye ρ H locs cells slots ls Qm C F Wo Ag hl hb hE
  exact lv_i2l C.1 C.2.1 hd rfl (k p l e R s m args below meth c D I A ρe Ye ρ H locs cells slots ls Qm C F Wo Ag hl hb hE)
theorem V_l2i {x : Int64} (hd : decode cc pc = .ok (.l2i, 1)) (k : V own ini cc nL ret X d b (pc + 1) loc (xI x.toInt32 :: st) Y G N Q) : V own ini cc nL ret X d b pc loc (xJ x :: st) Y G N Q := by
  intro p l e R s m args below meth c D I A ρe Ye ρ H locs cells slots ls Qm C F Wo Ag hl hb hE
  exact lv_l2i C.1 C.2.1 hd rfl (k p l e R s m args below meth c D I A ρe Ye ρ H locs cells slots ls Qm C F Wo Ag hl hb hE)
theorem V_i2b {x : Int32} (hd : decode cc pc = .ok (.i2b, 1)) (k : V own ini cc nL ret X d b (pc + 1) loc (xI x.toInt8.toInt32 :: st) Y G N Q) : V own ini cc nL ret X d b pc loc (xI x :: st) Y G N Q := by
  intro p l e R s m args below meth c D I A ρe Ye ρ H locs cells slots ls Qm C F Wo Ag hl hb hE
  exact lv_i2b C.1 C.2.1 hd rfl (k p l e R s m args below meth c D I A ρe Ye ρ H locs cells slots ls Qm C F Wo Ag hl hb hE)
theorem V_i2s {x : Int32} (hd : decode cc pc = .ok (.i2s, 1)) (k : V own ini cc nL ret X d b (pc + 1) loc (xI x.toInt16.toInt32 :: st) Y G N Q) : V own ini cc nL ret X d b pc loc (xI x :: st) Y G N Q := by
  intro p l e R s m args below meth c D I A ρe Ye ρ H locs cells slots ls Qm C F Wo Ag hl hb hE
  exact lv_i2s C.1 C.2.1 hd rfl (k p l e R s m args below meth c D I A ρe Ye ρ H locs cells slots ls Qm C F Wo Ag hl hb hE)
theorem V_dup {x : Int32} (hd : decode cc pc = .ok (.dup, 1)) (k : V own ini cc nL ret X d b (pc + 1) loc (xI x :: xI x :: st) Y G N Q) : V own ini cc nL ret X d b pc loc (xI x :: st) Y G N Q := by
  intro p l e R s m args below meth c D I A ρe Ye ρ H locs cells slots ls Qm C F Wo Ag hl hb hE
  exact lv_dup C.1 C.2.1 hd rfl (k p l e R s m args below meth c D I A ρe Ye ρ H locs cells slots ls Qm C F Wo Ag hl hb hE)
theorem V_dupR {r c : Nat} (hd : decode cc pc = .ok (.dup, 1)) (k : V own ini cc nL ret X d b (pc + 1) loc (xR r c :: xR r c :: st) Y G N Q) : V own ini cc nL ret X d b pc loc (xR r c :: st) Y G N Q := by
  intro p l e R s m args below meth c D I A ρe Ye ρ H locs cells slots ls Qm C F Wo Ag hl hb hE
  exact lv_dup C.1 C.2.1 hd rfl (k p l e R s m args below meth c D I A ρe Ye ρ H locs cells slots ls Qm C F Wo Ag hl hb hE)
theorem V_dup2 {x : Int32} {r c : Nat} (hd : decode cc pc = .ok (.dup2, 1)) (k : V own ini cc nL ret X d b (pc + 1) loc (xI x :: xR r c :: xI x :: xR r c :: st) Y G N Q) : V own ini cc nL ret X d b pc loc (xI x :: xR r c :: st) Y G N Q := by
  intro p l e R s m args below meth c D I A ρe Ye ρ H locs cells slots ls Qm C F Wo Ag hl hb hE
  exact lv_dup2_11 C.1 C.2.1 hd rfl rfl (k p l e R s m args below meth c D I A ρe Ye ρ H locs cells slots ls Qm C F Wo Ag hl hb hE)
theorem V_ifeq {x : Int32} {off : Int} {tgt : Nat} (hd : decode cc pc = .ok (.ifCond .eq off, 3)) (ht : (pc : Int) + off = (tgt : Int)) (kt : x = 0 → V own ini cc nL ret X d b tgt loc st Y G N Q) (kf : ¬ x = 0 → V own ini cc nL ret X d b (pc + 3) loc st Y G N Q) : V own ini cc nL ret X d b pc loc (xI x :: st) Y G N Q := by
  intro p l e R s m args below meth c D I A ρe Ye ρ H locs cells slots ls Qm C F Wo Ag hl hb hE
  exact lv_if_eq C.1 C.2.1 hd ht (fun h => kt h p l e R s m args below meth c D I A ρe Ye ρ H locs cells slots ls Qm C F Wo Ag hl hb hE) (fun h => kf h p l e R s m args below meth c D I A ρe Ye ρ H locs cells slots ls Qm C F Wo Ag hl hb hE)
theorem V_iflt {x : Int32} {off : Int} {tgt : Nat} (hd : decode cc pc = .ok (.ifCond .lt off, 3)) (ht : (pc : Int) + off = (tgt : Int)) (kt : x < 0 → V own ini cc nL ret X d b tgt loc st Y G N Q) (kf : ¬ x < 0 → V own ini cc nL ret X d b (pc + 3) loc st Y G N Q) : V own ini cc nL ret X d b pc loc (xI x :: st) Y G N Q := by
  intro p l e R s m args below meth c D I A ρe Ye ρ H locs cells slots ls Qm C F Wo Ag hl hb hE
  exact lv_if_lt C.1 C.2.1 hd ht (fun h => kt h p l e R s m args below meth c D I A ρe Ye ρ H locs cells slots ls Qm C F Wo Ag hl hb hE) (fun h => kf h p l e R s m args below meth c D I A ρe Ye ρ H locs cells slots ls Qm C F Wo Ag hl hb hE)
theorem V_ifge {x : Int32} {off : Int} {tgt : Nat} (hd : decode cc pc = .ok (.ifCond .ge off, 3)) (ht : (pc : Int) + off = (tgt : Int)) (kt : 0 ≤ x → V own ini cc nL ret X d b tgt loc st Y G N Q) (kf : ¬ 0 ≤ x → V own ini cc nL ret X d b (pc + 3) loc st Y G N Q) : V own ini cc nL ret X d b pc loc (xI x :: st) Y G N Q := by
  intro p l e R s m args below meth c D I A ρe Ye ρ H locs cells slots ls Qm C F Wo Ag hl hb hE
  exact lv_if_ge C.1 C.2.1 hd ht (fun h => kt h p l e R s m args below meth c D I A ρe Ye ρ H locs cells slots ls Qm C F Wo Ag hl hb hE) (fun h => kf h p l e R s m args below meth c D I A ρe Ye ρ H locs cells slots ls Qm C F Wo Ag hl hb hE)
theorem V_ifgt {x : Int32} {off : Int} {tgt : Nat} (hd : decode cc pc = .ok (.ifCond .gt off, 3)) (ht : (pc : Int) + off = (tgt : Int)) (kt : 0 < x → V own ini cc nL ret X d b tgt loc st Y G N Q) (kf : ¬ 0 < x → V own ini cc nL ret X d b (pc + 3) loc st Y G N Q) : V own ini cc nL ret X d b pc loc (xI x :: st) Y G N Q := by
  intro p l e R s m args below meth c D I A ρe Ye ρ H locs cells slots ls Qm C F Wo Ag hl hb hE
  exact lv_if_gt C.1 C.2.1 hd ht (fun h => kt h p l e R s m args below meth c D I A ρe Ye ρ H locs cells slots ls Qm C F Wo Ag hl hb hE) (fun h => kf h p l e R s m args below meth c D I A ρe Ye ρ H locs cells slots ls Qm C F Wo Ag hl hb hE)
theorem V_ifle {x : Int32} {off : Int} {tgt : Nat} (hd : decode cc pc = .ok (.ifCond .le off, 3)) (ht : (pc : Int) + off = (tgt : Int)) (kt : x ≤ 0 → V own ini cc nL ret X d b tgt loc st Y G N Q) (kf : ¬ x ≤ 0 → V own ini cc nL ret X d b (pc + 3) loc st Y G N Q) : V own ini cc nL ret X d b pc loc (xI x :: st) Y G N Q := by
  intro p l e R s m args below meth c D I A ρe Ye ρ H locs cells slots ls Qm C F Wo Ag hl hb hE
  exact lv_if_le C.1 C.2.1 hd ht (fun h => kt h p l e R s m args below meth c D I A ρe Ye ρ H locs cells slots ls Qm C F Wo Ag hl hb hE) (fun h => kf h p l e R s m args below meth c D I A ρe Ye ρ H locs cells slots ls Qm C F Wo Ag hl hb hE)
theorem V_ifne {x : Int32} {off : Int} {tgt : Nat} (hd : decode cc pc = .ok (.ifCond .ne off, 3)) (ht : (pc : Int) + off = (tgt : Int)) (kt : ¬ x = 0 → V own ini cc nL ret X d b tgt loc st Y G N Q) (kf : x = 0 → V own ini cc nL ret X d b (pc + 3) loc st Y G N Q) : V own ini cc nL ret X d b pc loc (xI x :: st) Y G N Q := by
  intro p l e R s m args below meth c D I A ρe Ye ρ H locs cells slots ls Qm C F Wo Ag hl hb hE
  exact lv_if_ne C.1 C.2.1 hd ht (fun h => kt h p l e R s m args below meth c D I A ρe Ye ρ H locs cells slots ls Qm C F Wo Ag hl hb hE) (fun h => kf h p l e R s m args below meth c D I A ρe Ye ρ H locs cells slots ls Qm C F Wo Ag hl hb hE)
theorem V_icmpeq {x y : Int32} {off : Int} {tgt : Nat} (hd : decode cc pc = .ok (.if_icmp .eq off, 3)) (ht : (pc : Int) + off = (tgt : Int)) (kt : x = y → V own ini cc nL ret X d b tgt loc st Y G N Q) (kf : ¬ x = y → V own ini cc nL ret X d b (pc + 3) loc st Y G N Q) : V own ini cc nL ret X d b pc loc (xI y :: xI x :: st) Y G N Q := by
  intro p l e R s m args below meth c D I A ρe Ye ρ H locs cells slots ls Qm C F Wo Ag hl hb hE
  exact lv_icmp_eq C.1 C.2.1 hd ht (fun h => kt h p l e R s m args below meth c D I A ρe Ye ρ H locs cells slots ls Qm C F Wo Ag hl hb hE) (fun h => kf h p l e R s m args below meth c D I A ρe Ye ρ H locs cells slots ls Qm C F Wo Ag hl hb hE)
theorem V_icmplt {x y : Int32} {off : Int} {tgt : Nat} (hd : decode cc pc = .ok (.if_icmp .lt off, 3)) (ht : (pc : Int) + off = (tgt : Int)) (kt : x < y → V own ini cc nL ret X d b tgt loc st Y G N Q) (kf : ¬ x < y → V own ini cc nL ret X d b (pc + 3) loc st Y G N Q) : V own ini cc nL ret X d b pc loc (xI y :: xI x :: st) Y G N Q := by
  intro p l e R s m args below meth c D I A ρe Ye ρ H locs cells slots ls Qm C F Wo Ag hl hb hE
  exact lv_icmp_lt C.1 C.2.1 hd ht (fun h => kt h p l e R s m args below meth c D I A ρe Ye ρ H locs cells slots ls Qm C F Wo Ag hl hb hE) (fun h => kf h p l e R s m args below meth c D I A ρe Ye ρ H locs cells slots ls Qm C F Wo Ag hl hb hE)
theorem V_icmpge {x y : Int32} {off : Int} {tgt : Nat} (hd : decode cc pc = .ok (.if_icmp .ge off, 3)) (ht : (pc : Int) + off = (tgt : Int)) (kt : y ≤ x → V own ini cc nL ret X d b tgt loc st Y G N Q) (kf : ¬ y ≤ x → V own ini cc nL ret X d b (pc + 3) loc st Y G N Q) : V own ini cc nL ret X d b pc loc (xI y :: xI x :: st) Y G N Q := by
  intro p l e R s m args below meth c D I A ρe Ye ρ H locs cells slots ls Qm C F Wo Ag hl hb hE
  exact lv_icmp_ge C.1 C.2.1 hd ht (fun h => kt h p l e R s m args below meth c D I A ρe Ye ρ H locs cells slots ls Qm C F Wo Ag hl hb hE) (fun h => kf h p l e R s m args below meth c D I A ρe Ye ρ H locs cells slots ls Qm C F Wo Ag hl hb hE)
theorem V_icmpgt {x y : Int32} {off : Int} {tgt : Nat} (hd : decode cc pc = .ok (.if_icmp .gt off, 3)) (ht : (pc : Int) + off = (tgt : Int)) (kt : y < x → V own ini cc nL ret X d b tgt loc st Y G N Q) (kf : ¬ y < x → V own ini cc nL ret X d b (pc + 3) loc st Y G N Q) : V own ini cc nL ret X d b pc loc (xI y :: xI x :: st) Y G N Q := by
  intro p l e R s m args below meth c D I A ρe Ye ρ H locs cells slots ls Qm C F Wo Ag hl hb hE
  exact lv_icmp_gt C.1 C.2.1 hd ht (fun h => kt h p l e R s m args below meth c D I A ρe Ye ρ H locs cells slots ls Qm C F Wo Ag hl hb hE) (fun h => kf h p l e R s m args below meth c D I A ρe Ye ρ H locs cells slots ls Qm C F Wo Ag hl hb hE)
theorem V_icmple {x y : Int32} {off : Int} {tgt : Nat} (hd : decode cc pc = .ok (.if_icmp .le off, 3)) (ht : (pc : Int) + off = (tgt : Int)) (kt : x ≤ y → V own ini cc nL ret X d b tgt loc st Y G N Q) (kf : ¬ x ≤ y → V own ini cc nL ret X d b (pc + 3) loc st Y G N Q) : V own ini cc nL ret X d b pc loc (xI y :: xI x :: st) Y G N Q := by
  intro p l e R s m args below meth c D I A ρe Ye ρ H locs cells slots ls Qm C F Wo Ag hl hb hE
  exact lv_icmp_le C.1 C.2.1 hd ht (fun h => kt h p l e R s m args below meth c D I A ρe Ye ρ H locs cells slots ls Qm C F Wo Ag hl hb hE) (fun h => kf h p l e R s m args below meth c D I A ρe Ye ρ H locs cells slots ls Qm C F Wo Ag hl hb hE)
theorem V_icmpne {x y : Int32} {off : Int} {tgt : Nat} (hd : decode cc pc = .ok (.if_icmp .ne off, 3)) (ht : (pc : Int) + off = (tgt : Int)) (kt : ¬ x = y → V own ini cc nL ret X d b tgt loc st Y G N Q) (kf : x = y → V own ini cc nL ret X d b (pc + 3) loc st Y G N Q) : V own ini cc nL ret X d b pc loc (xI y :: xI x :: st) Y G N Q := by
  intro p l e R s m args below meth c D I A ρe Ye ρ H locs cells slots ls Qm C F Wo Ag hl hb hE
  exact lv_icmp_ne C.1 C.2.1 hd ht (fun h => kt h p l e R s m args below meth c D I A ρe Ye ρ H locs cells slots ls Qm C F Wo Ag hl hb hE) (fun h => kf h p l e R s m args below meth c D I A ρe Ye ρ H locs cells slots ls Qm C F Wo Ag hl hb hE)
theorem V_goto {off : Int} {tgt : Nat} (hd : decode cc pc = .ok (.goto off, 3)) (ht : (pc : Int) + off = (tgt : Int)) (k : V own ini cc nL ret X d b tgt loc st Y G N Q) : V own ini cc nL ret X d b pc loc st Y G N Q := by
  intro p l e R s m args below meth c D I A ρe Ye ρ H locs cells slots ls Qm C F Wo Ag hl hb hE
  exact lv_goto C.1 C.2.1 hd ht (k p l e R s m args below meth c D I A ρe Ye ρ H locs cells slots ls Qm C F Wo Ag hl hb hE)
theorem V_ifnonnull {r q : Nat} {off : Int} {tgt : Nat} (hd : decode cc pc = .ok (.ifnonnull off, 3)) (ht : (pc : Int) + off = (tgt : Int)) (k : V own ini cc nL ret X d b tgt loc st Y G N Q) : V own ini cc nL ret X d b pc loc (xR r q :: st) Y G N Q := by
  intro p l e R s m args below meth c D I A ρe Ye ρ H locs cells slots ls Qm C F Wo Ag hl hb hE
  exact lv_ifnonnull C.1 C.2.1 hd ht (k p l e R s m args below meth c D I A ρe Ye ρ H locs cells slots ls Qm C F Wo Ag hl hb hE)
theorem V_ifnonnullN {off : Int} (hd : decode cc pc = .ok (.ifnonnull off, 3)) (k : V own ini cc nL ret X d b (pc + 3) loc st Y G N Q) : V own ini cc nL ret X d b pc loc (xN :: st) Y G N Q := by
  intro p l e R s m args below meth c D I A ρe Ye ρ H locs cells slots ls Qm C F Wo Ag hl hb hE
  exact lv_ifnonnullN C.1 C.2.1 hd (k p l e R s m args below meth c D I A ρe Ye ρ H locs cells slots ls Qm C F Wo Ag hl hb hE)
theorem V_tableOut {dflt lo hi : Int} {offs : Array Int} {len : Nat} {x : Int32} {tgt : Nat} (hd : decode cc pc = .ok (.tableswitch dflt lo hi offs, len)) (h : x.toInt < lo ∨ hi < x.toInt) (ht : (pc : Int) + dflt = (tgt : Int)) (k : V own ini cc nL ret X d b tgt loc st Y G N Q) : V own ini cc nL ret X d b pc loc (xI x :: st) Y G N Q := by
  intro p l e R s m args below meth c D I A ρe Ye ρ H locs cells slots ls Qm C F Wo Ag hl hb hE
  exact lv_tableOut C.1 C.2.1 hd h ht (k p l e R s m args below meth c D I A ρe Ye ρ H locs cells slots ls Qm C F Wo Ag hl hb hE)
theorem V_tableIn {dflt lo hi : Int} {offs : Array Int} {len : Nat} {x : Int32} {off : Int} {tgt : Nat} (hd : decode cc pc = .ok (.tableswitch dflt lo hi offs, len)) (h1 : ¬ x.toInt < lo) (h2 : ¬ hi < x.toInt) (ho : offs[(x.toInt - lo).toNat]? = some off) (ht : (pc : Int) + off = (tgt : Int)) (k : V own ini cc nL ret X d b tgt loc st Y G N Q) : V own ini cc nL ret X d b pc loc (xI x :: st) Y G N Q := by
  intro p l e R s m args below meth c D I A ρe Ye ρ H locs cells slots ls Qm C F Wo Ag hl hb hE
  exact lv_tableIn C.1 C.2.1 hd h1 h2 ho ht (k p l e R s m args below meth c D I A ρe Ye ρ H locs cells slots ls Qm C F Wo Ag hl hb hE)
theorem V_lookup {dflt : Int} {ps : Array (Int × Int)} {len : Nat} {x : Int32} {off : Int} {tgt : Nat} (hd : decode cc pc = .ok (.lookupswitch dflt ps, len)) (hp : (ps.toList.zip (ps.toList.drop 1)).all (fun (a, next) => a.1 < next.1) = true) (ho : Op.lookupswitch.offset ps.toList dflt x.toInt = off) (ht : (pc : Int) + off = (tgt : Int)) (k : V own ini cc nL ret X d b tgt loc st Y G N Q) : V own ini cc nL ret X d b pc loc (xI x :: st) Y G N Q := by
  intro p l e R s m args below meth c D I A ρe Ye ρ H locs cells slots ls Qm C F Wo Ag hl hb hE
  exact lv_lookup C.1 C.2.1 hd hp ho ht (k p l e R s m args below meth c D I A ρe Ye ρ H locs cells slots ls Qm C F Wo Ag hl hb hE)
theorem V_ireturn {x : Int32} (hd : decode cc pc = .ok (.ireturn, 1)) (hok : xOk ret Y (some (xI x))) (k : Q (some (xI x)) Y G N) : V own ini cc nL ret X d b pc loc [xI x] Y G N Q := by
  intro p l e R s m args below meth c D I A ρe Ye ρ H locs cells slots ls Qm C F Wo Ag hl hb hE
  exact hE (some (xI x)) Y G N ρ H locs cells slots pc ls k hok Wo Ag ⟨Nat.le_trans (Nat.le_add_right _ _) hb.1, Nat.le_trans (Nat.le_add_right _ _) hb.2⟩ hd
theorem V_lreturn {x : Int64} (hd : decode cc pc = .ok (.lreturn, 1)) (hok : xOk ret Y (some (xJ x))) (k : Q (some (xJ x)) Y G N) : V own ini cc nL ret X d b pc loc [xJ x] Y G N Q := by
  intro p l e R s m args below meth c D I A ρe Ye ρ H locs cells slots ls Qm C F Wo Ag hl hb hE
  exact hE (some (xJ x)) Y G N ρ H locs cells slots pc ls k hok Wo Ag ⟨Nat.le_trans (Nat.le_add_right _ _) hb.1, Nat.le_trans (Nat.le_add_right _ _) hb.2⟩ hd
theorem V_areturn {q : Option (Nat × Nat)} (hd : decode cc pc = .ok (.areturn, 1)) (hok : xOk ret Y (some (.inr q))) (k : Q (some (.inr q)) Y G N) : V own ini cc nL ret X d b pc loc [.inr q] Y G N Q := by
  intro p l e R s m args below meth c D I A ρe Ye ρ H locs cells slots ls Qm C F Wo Ag hl hb hE
  exact hE (some (.inr q)) Y G N ρ H locs cells slots pc ls k hok Wo Ag ⟨Nat.le_trans (Nat.le_add_right _ _) hb.1, Nat.le_trans (Nat.le_add_right _ _) hb.2⟩ hd
theorem V_return  (hd : decode cc pc = .ok (.return_, 1)) (hok : xOk ret Y none) (k : Q none Y G N) : V own ini cc nL ret X d b pc loc [] Y G N Q := by
  intro p l e R s m args below meth c D I A ρe Ye ρ H locs cells slots ls Qm C F Wo Ag hl hb hE
  exact hE none Y G N ρ H locs cells slots pc ls k hok Wo Ag ⟨Nat.le_trans (Nat.le_add_right _ _) hb.1, Nat.le_trans (Nat.le_add_right _ _) hb.2⟩ hd
theorem V_iaload {r c n : Nat} {i : Int32} (hd : decode cc pc = .ok (.iaload, 1)) (hY : ((r, c), (1, n)) ∈ Y) (hin : vp_in i n) (k : V own ini cc nL ret X d b (pc + 1) loc (xI (N r c i.toNatClampNeg) :: st) Y G N Q) : V own ini cc nL ret X d b pc loc (xI i :: xR r c :: st) Y G N Q := by
  intro p l e R s m args below meth c D I A ρe Ye ρ H locs cells slots ls Qm C F Wo Ag hl hb hE
  obtain ⟨j, hj⟩ := List.getElem?_of_mem hY
  exact va_iald C.1 C.2.1 F.1 Wo.1 j 0 (xw_get hj) rfl hin hd (k p l e R s m args below meth c D I A ρe Ye ρ H locs cells slots ls Qm C F Wo Ag hl hb hE)
theorem V_zaload {r c n : Nat} {i : Int32} (hd : decode cc pc = .ok (.baload, 1)) (hY : ((r, c), (4, n)) ∈ Y) (hin : vp_in i n) (k : V own ini cc nL ret X d b (pc + 1) loc (xI (N r c i.toNatClampNeg) :: st) Y G N Q) : V own ini cc nL ret X d b pc loc (xI i :: xR r c :: st) Y G N Q := by
  intro p l e R s m args below meth c D I A ρe Ye ρ H locs cells slots ls Qm C F Wo Ag hl hb hE
  obtain ⟨j, hj⟩ := List.getElem?_of_mem hY
  exact va_zald C.1 C.2.1 F.1 Wo.1 j 1 (xw_get hj) rfl hin hd (k p l e R s m args below meth c D I A ρe Ye ρ H locs cells slots ls Qm C F Wo Ag hl hb hE)
theorem V_aaload {r c n a a' : Nat} {i : Int32} (hd : decode cc pc = .ok (.aaload, 1)) (hY : ((r, c), (2, n)) ∈ Y) (hin : vp_in i n) (hg : G r c i.toNatClampNeg = some (a, a')) (k : V own ini cc nL ret X d b (pc + 1) loc (xR a a' :: st) Y G N Q) : V own ini cc nL ret X d b pc loc (xI i :: xR r c :: st) Y G N Q := by
  intro p l e R s m args below meth c D I A ρe Ye ρ H locs cells slots ls Qm C F Wo Ag hl hb hE
  obtain ⟨j, hj⟩ := List.getElem?_of_mem hY
  refine va_aldq C.1 C.2.1 F.1 Wo.1 j 2 (xw_get hj) rfl hin hd ?_
  simp only [hg]
  exact k p l e R s m args below meth c D I A ρe Ye ρ H locs cells slots ls Qm C F Wo Ag hl hb hE
theorem V_alen {r c n : Nat} {v : Int32} (hd : decode cc pc = .ok (.arraylength, 1)) (hY : ((r, c), (1, n)) ∈ Y) (hv : Int32.ofNat n = v) (k : V own ini cc nL ret X d b (pc + 1) loc (xI v :: st) Y G N Q) : V own ini cc nL ret X d b pc loc (xR r c :: st) Y G N Q := by
  intro p l e R s m args below meth c D I A ρe Ye ρ H locs cells slots ls Qm C F Wo Ag hl hb hE
  obtain ⟨j, hj⟩ := List.getElem?_of_mem hY
  exact va_alen C.1 C.2.1 F.1 Wo.1 j 0 (xw_get hj) (ty := .int) rfl hv hd (k p l e R s m args below meth c D I A ρe Ye ρ H locs cells slots ls Qm C F Wo Ag hl hb hE)
end XR
