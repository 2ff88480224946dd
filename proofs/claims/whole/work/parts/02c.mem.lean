theorem xw_copy_n : Cond.native arraycopyName ∈ xWd := xWd_in (by decide +kernel) (by decide +kernel)
theorem xw_copy_s : Cond.static arraycopyName ∈ xWd := xWd_in (by decide +kernel) (by decide +kernel)
theorem xw_copy_i : Cond.initialized "java/lang/System" ∈ xWd := xWd_in (by decide +kernel) (by decide +kernel)
theorem xcat_le (ρ : xP) : ∀ st : List xAV, ((st.map (xt ρ)).map fun v => v.category).sum ≤ 2 * st.length
  | [] => Nat.le_refl _
  | v :: st => by
    have h1 := xcat_le ρ st
    have h2 : (xt ρ v).category ≤ 2 := by rcases v with (v | v) | (_ | v) <;> simp [xt, Value.category]
    simp only [List.map_cons, List.sum_cons, List.length_cons]
    omega
/-! FIELDS, WRITES, STATICS, THE SCRIPT -/
/-- what the tables say of a field's use: the link of its place in a class's pool, its class's number and its own, whether it is a reference, whether it is final -/
def xFl (own : String) (idx ci k : Nat) (b fin : Bool) : Prop := ∃ (C : String) (T : u_T) (n : Nat) (ty : Nat → FieldType), vwCl[ci]? = some (C, T, n) ∧ k < n ∧ Cond.fieldLink own idx (T k).1 (T k).2.1 (T k).2.2.1 ∈ xWd ∧ (∀ w ∈ u_ws C T n, w ∈ xWd) ∧ (∀ j, j < n → parseFieldDescriptor (T j).2.2.1 = some (ty j)) ∧
  (∀ a, a < n → ∀ b, b < n → a ≠ b → (T a).2.1 ≠ (T b).2.1) ∧ (xF ci)[k]? = some b ∧ (T k).2.2.2 = fin ∧ (b = false → ty k = .int) ∧ (b = true → (∃ n, ty k = .object n) ∨ ∃ t, ty k = .array t) ∧ (fin = true → (T k).1 = own)
/-- the same, for reading alone -/
def xFl0 (own : String) (idx ci k : Nat) (b : Bool) : Prop := ∃ (C : String) (T : u_T) (n : Nat) (ty : Nat → FieldType), vwCl[ci]? = some (C, T, n) ∧ k < n ∧ Cond.fieldLink own idx (T k).1 (T k).2.1 (T k).2.2.1 ∈ xWd ∧ (∀ w ∈ u_ws C T n, w ∈ xWd) ∧ (∀ j, j < n → parseFieldDescriptor (T j).2.2.1 = some (ty j)) ∧
  (∀ a, a < n → ∀ b, b < n → a ≠ b → (T a).2.1 ≠ (T b).2.1) ∧ (xF ci)[k]? = some b
theorem xZe_N {Y : xY} {G : xG} {N : xM} {r c : Nat} {kd : Nat × Nat} (h : xZe Y G N) (hY : ((r, c), kd) ∈ Y) (f : Nat → Int32) : xZe Y G (xp N r c f) := by
  refine ⟨fun r' c' hn => ?_, h.2⟩
  have hne : ¬ (r' = r ∧ c' = c) := by
    rintro ⟨rfl, rfl⟩
    exact hn kd hY
  rw [xp_no _ _ hne]
  exact h.1 r' c' hn
theorem xZe_G {Y : xY} {G : xG} {N : xM} {r c k : Nat} {kd : Nat × Nat} (h : xZe Y G N) (hY : ((r, c), kd) ∈ Y) {q : Option (Nat × Nat)} (hq : ∀ a, q = some a → ∃ kd, (a, kd) ∈ Y) : xZe Y (xg G r c (va_up (G r c) k q)) N := by
  refine ⟨fun r' c' hn => ?_, fun r' c' k' a ha => ?_, h.2.2⟩
  · have hne : ¬ (r' = r ∧ c' = c) := by
      rintro ⟨rfl, rfl⟩
      exact hn kd hY
    rw [xg_no _ _ hne]
    exact h.1 r' c' hn
  · by_cases hne : r' = r ∧ c' = c
    · obtain ⟨rfl, rfl⟩ := hne
      rw [xg_eq] at ha
      by_cases hk : k' = k
      · subst hk
        rw [va_up_eq] at ha
        exact hq a ha
      · rw [va_up_no _ _ hk] at ha
        exact h.2.1 _ _ _ _ ha
    · rw [xg_no _ _ hne] at ha
      exact h.2.1 _ _ _ _ ha
theorem xw_N {I : xD} {ρ : xP} {Y : xY} {G : xG} {N : xM} {A : Nat → Prop} {i r c : Nat} {k : Nat × Nat} (hD : va_D A (xw I ρ Y G N)) (h : Y[i]? = some ((r, c), k)) (f : Nat → Int32) : (xw I ρ Y G N).set i (ρ r c, xcell I ρ G (xp N r c f) r c k) = xw I ρ Y G (xp N r c f) :=
  xw_set hD h (fun _ _ hne => (xp_no _ _ hne).symm) (fun _ _ _ => rfl)
theorem xw_G {I : xD} {ρ : xP} {Y : xY} {G : xG} {N : xM} {A : Nat → Prop} {i r c : Nat} {k : Nat × Nat} (hD : va_D A (xw I ρ Y G N)) (h : Y[i]? = some ((r, c), k)) (f : Nat → Option (Nat × Nat)) : (xw I ρ Y G N).set i (ρ r c, xcell I ρ (xg G r c f) N r c k) = xw I ρ Y (xg G r c f) N :=
  xw_set hD h (fun _ _ _ => rfl) (fun _ _ hne => (xg_no _ _ hne).symm)
theorem xt_q (ρ : xP) (q : Option (Nat × Nat)) : xt ρ (.inr q) = va_rf (xq ρ q) := by cases q <;> rfl
theorem x_fitsR {ty : FieldType} (h : (∃ n, ty = .object n) ∨ ∃ t, ty = .array t) (q : Option Nat) : narrow ty (va_rf q) = va_rf q ∧ fits ty (va_rf q) = true := by
  rcases h with ⟨n, rfl⟩ | ⟨t, rfl⟩ <;> cases q <;> exact ⟨rfl, rfl⟩
section XR
variable {own : String} {ini : Bool} {cc : ByteArray} {nL : Nat} {ret : Option FieldType} {X : Option (Nat × (Nat → Int32))} {d : Nat} {b : Nat × Nat} {pc : Nat} {loc : List (Option xAV)} {st : List xAV} {Y : xY} {G : xG} {N : xM} {Q : Option xAV → xY → xG → xM → Prop}
theorem V_getI {r c ci k0 idx : Nat} (hd : decode cc pc = .ok (.getfield idx, 3)) (hf : xFl0 own idx ci k0 false) (hY : ((r, c), (0, ci)) ∈ Y) (k : V own ini cc nL ret X d b (pc + 3) loc (xI (N r c k0) :: st) Y G N Q) : V own ini cc nL ret X d b pc loc (xR r c :: st) Y G N Q := by
  intro p l e R s m args below meth c0 D I A ρe Ye ρ H locs cells slots ls Qm C F Wo Ag hl hb hE
  obtain ⟨j, hj⟩ := List.getElem?_of_mem hY
  obtain ⟨Cn, T, n, ty, h1, h2, h3, h4, h5, h6, h7⟩ := hf
  exact va_get C.1 C.2.1 C.2.2.2.2.2.2.1 h4 C.2.2.2.2.2.1 F.1 Wo.1 j (xw_get hj) h1 k0 h2 (C.2.2.2.2.2.2.1 _ h3) (fun _ h => h) (xfs_I h7) hd (k p l e R s m args below meth c0 D I A ρe Ye ρ H locs cells slots ls Qm C F Wo Ag hl hb hE)
theorem V_getQ {r c ci k0 idx : Nat} (hd : decode cc pc = .ok (.getfield idx, 3)) (hf : xFl0 own idx ci k0 true) (hY : ((r, c), (0, ci)) ∈ Y) (k : V own ini cc nL ret X d b (pc + 3) loc (.inr (G r c k0) :: st) Y G N Q) : V own ini cc nL ret X d b pc loc (xR r c :: st) Y G N Q := by
  intro p l e R s m args below meth c0 D I A ρe Ye ρ H locs cells slots ls Qm C F Wo Ag hl hb hE
  obtain ⟨j, hj⟩ := List.getElem?_of_mem hY
  obtain ⟨Cn, T, n, ty, h1, h2, h3, h4, h5, h6, h7⟩ := hf
  refine va_get C.1 C.2.1 C.2.2.2.2.2.2.1 h4 C.2.2.2.2.2.1 F.1 Wo.1 j (xw_get hj) h1 k0 h2 (C.2.2.2.2.2.2.1 _ h3) (fun _ h => h) (xfs_R h7) hd ?_
  rw [← xt_q]
  exact k p l e R s m args below meth c0 D I A ρe Ye ρ H locs cells slots ls Qm C F Wo Ag hl hb hE
theorem V_getR {r c ci k0 idx a a' : Nat} (hd : decode cc pc = .ok (.getfield idx, 3)) (hf : xFl0 own idx ci k0 true) (hY : ((r, c), (0, ci)) ∈ Y) (hg : G r c k0 = some (a, a')) (k : V own ini cc nL ret X d b (pc + 3) loc (xR a a' :: st) Y G N Q) : V own ini cc nL ret X d b pc loc (xR r c :: st) Y G N Q := V_getQ hd hf hY (by rw [hg]; exact k)
theorem V_putI {r c ci k0 idx : Nat} {x : Int32} (hd : decode cc pc = .ok (.putfield idx, 3)) (hf : xFl own idx ci k0 false false) (hY : ((r, c), (0, ci)) ∈ Y) (k : V own ini cc nL ret X d b (pc + 3) loc st Y G (xp N r c (upd (N r c) k0 x)) Q) : V own ini cc nL ret X d b pc loc (xI x :: xR r c :: st) Y G N Q := by
  intro p l e R s m args below meth c0 D I A ρe Ye ρ H locs cells slots ls Qm C F Wo Ag hl hb hE
  obtain ⟨j, hj⟩ := List.getElem?_of_mem hY
  obtain ⟨Cn, T, n, ty, h1, h2, h3, h4, h5, h6, h7, h8, h9, -⟩ := hf
  have e9 : parseFieldDescriptor (T k0).2.2.1 = some .int := by rw [h5 k0 h2, h9 rfl]
  refine va_put (v := .int x) C.1 C.2.1 C.2.2.2.2.2.2.1 h4 ty h5 h6 C.2.2.2.2.2.1 F.1 Wo.1 Wo.2.1 Wo.2.2.1 j (xw_get hj) h1 k0 h2 (C.2.2.2.2.2.2.1 _ h3) (fun _ h => h) h8 e9 (vp_nar_int x) rfl (List.getElem?_eq_some_iff.mp (xfs_I h7)).1 hd (fun H1 locs1 hP hD hS => ?_)
  rw [xfs_setI h7] at hP hD
  have e8 := xw_N Wo.2.1 hj (upd (N r c) k0 x)
  exact k p l e R s m args below meth c0 D I A ρe Ye ρ H1 locs1 cells slots ls Qm C F ⟨e8 ▸ hP, e8 ▸ hD, hS, xZe_N Wo.2.2.2 hY _⟩ Ag hl hb hE
theorem V_putR {r c ci k0 idx : Nat} {q : Option (Nat × Nat)} (hd : decode cc pc = .ok (.putfield idx, 3)) (hf : xFl own idx ci k0 true false) (hY : ((r, c), (0, ci)) ∈ Y) (hq : ∀ a, q = some a → ∃ kd, (a, kd) ∈ Y) (k : V own ini cc nL ret X d b (pc + 3) loc st Y (xg G r c (va_up (G r c) k0 q)) N Q) : V own ini cc nL ret X d b pc loc (.inr q :: xR r c :: st) Y G N Q := by
  intro p l e R s m args below meth c0 D I A ρe Ye ρ H locs cells slots ls Qm C F Wo Ag hl hb hE
  obtain ⟨j, hj⟩ := List.getElem?_of_mem hY
  obtain ⟨Cn, T, n, ty, h1, h2, h3, h4, h5, h6, h7, h8, -, h10, h11⟩ := hf
  obtain ⟨e1, e2⟩ := x_fitsR (h10 rfl) (xq ρ q)
  show W p l e R s m args below meth c0 H locs cells slots Qm (F0 m pc ls (xt ρ (.inr q) :: .ref (ρ r c) :: st.map (xt ρ)))
  rw [xt_q]
  refine va_put (v := va_rf (xq ρ q)) C.1 C.2.1 C.2.2.2.2.2.2.1 h4 ty h5 h6 C.2.2.2.2.2.1 F.1 Wo.1 Wo.2.1 Wo.2.2.1 j (xw_get hj) h1 k0 h2 (C.2.2.2.2.2.2.1 _ h3) (fun _ h => h) h8 (h5 k0 h2) e1 e2 (List.getElem?_eq_some_iff.mp (xfs_R h7)).1 hd (fun H1 locs1 hP hD hS => ?_)
  rw [xfs_setR h7] at hP hD
  have e8 := xw_G Wo.2.1 hj (va_up (G r c) k0 q)
  exact k p l e R s m args below meth c0 D I A ρe Ye ρ H1 locs1 cells slots ls Qm C F ⟨e8 ▸ hP, e8 ▸ hD, hS, xZe_G Wo.2.2.2 hY hq⟩ Ag hl hb hE
theorem V_putRF {r c ci k0 idx : Nat} {q : Option (Nat × Nat)} (hd : decode cc pc = .ok (.putfield idx, 3)) (hf : xFl own idx ci k0 true true) (hY : ((r, c), (0, ci)) ∈ Y) (hi : ini = true) (hq : ∀ a, q = some a → ∃ kd, (a, kd) ∈ Y) (k : V own ini cc nL ret X d b (pc + 3) loc st Y (xg G r c (va_up (G r c) k0 q)) N Q) : V own ini cc nL ret X d b pc loc (.inr q :: xR r c :: st) Y G N Q := by
  intro p l e R s m args below meth c0 D I A ρe Ye ρ H locs cells slots ls Qm C F Wo Ag hl hb hE
  obtain ⟨j, hj⟩ := List.getElem?_of_mem hY
  obtain ⟨Cn, T, n, ty, h1, h2, h3, h4, h5, h6, h7, h8, -, h10, h11⟩ := hf
  obtain ⟨e1, e2⟩ := x_fitsR (h10 rfl) (xq ρ q)
  show W p l e R s m args below meth c0 H locs cells slots Qm (F0 m pc ls (xt ρ (.inr q) :: .ref (ρ r c) :: st.map (xt ρ)))
  rw [xt_q]
  refine va_putF (v := va_rf (xq ρ q)) C.1 C.2.1 C.2.2.2.2.2.2.1 h4 ty h5 h6 C.2.2.2.2.2.1 F.1 Wo.1 Wo.2.1 Wo.2.2.1 j (xw_get hj) h1 k0 h2 (C.2.2.2.2.2.2.1 _ h3) (fun _ h => h) h8 (C.2.2.2.2.2.2.2.2.2 hi) (h11 rfl) (h5 k0 h2) e1 e2 (List.getElem?_eq_some_iff.mp (xfs_R h7)).1 hd (fun H1 locs1 hP hD hS => ?_)
  rw [xfs_setR h7] at hP hD
  have e8 := xw_G Wo.2.1 hj (va_up (G r c) k0 q)
  exact k p l e R s m args below meth c0 D I A ρe Ye ρ H1 locs1 cells slots ls Qm C F ⟨e8 ▸ hP, e8 ▸ hD, hS, xZe_G Wo.2.2.2 hY hq⟩ Ag hl hb hE
theorem V_iastore {r c n : Nat} {i x : Int32} (hd : decode cc pc = .ok (.iastore, 1)) (hY : ((r, c), (1, n)) ∈ Y) (hin : vp_in i n) (k : V own ini cc nL ret X d b (pc + 1) loc st Y G (xp N r c (upd (N r c) i.toNatClampNeg x)) Q) : V own ini cc nL ret X d b pc loc (xI x :: xI i :: xR r c :: st) Y G N Q := by
  intro p l e R s m args below meth c0 D I A ρe Ye ρ H locs cells slots ls Qm C F Wo Ag hl hb hE
  obtain ⟨j, hj⟩ := List.getElem?_of_mem hY
  refine va_iast C.1 C.2.1 F.1 Wo.1 Wo.2.1 Wo.2.2.1 j 0 (xw_get hj) rfl hin hd (fun H1 locs1 hP hD hS => ?_)
  have e8 := xw_N Wo.2.1 hj (upd (N r c) i.toNatClampNeg x)
  have e7 : xcell I ρ G (xp N r c (upd (N r c) i.toNatClampNeg x)) r c (1, n) = .inl (I.1, n, .inl (upd (N r c) i.toNatClampNeg x)) := by simp only [xcell, xp_eq]
  rw [e7] at e8
  exact k p l e R s m args below meth c0 D I A ρe Ye ρ H1 locs1 cells slots ls Qm C F ⟨e8 ▸ hP, e8 ▸ hD, hS, xZe_N Wo.2.2.2 hY _⟩ Ag hl hb hE
theorem V_zastore {r c n : Nat} {i x : Int32} (hd : decode cc pc = .ok (.bastore, 1)) (hY : ((r, c), (4, n)) ∈ Y) (hin : vp_in i n) (hz : vp_nar .boolean x = x) (k : V own ini cc nL ret X d b (pc + 1) loc st Y G (xp N r c (upd (N r c) i.toNatClampNeg x)) Q) : V own ini cc nL ret X d b pc loc (xI x :: xI i :: xR r c :: st) Y G N Q := by
  intro p l e R s m args below meth c0 D I A ρe Ye ρ H locs cells slots ls Qm C F Wo Ag hl hb hE
  obtain ⟨j, hj⟩ := List.getElem?_of_mem hY
  refine va_zast C.1 C.2.1 F.1 Wo.1 Wo.2.1 Wo.2.2.1 j 1 (xw_get hj) rfl hin hd (fun H1 locs1 hP hD hS => ?_)
  rw [hz] at hP hD
  have e8 := xw_N Wo.2.1 hj (upd (N r c) i.toNatClampNeg x)
  have e7 : xcell I ρ G (xp N r c (upd (N r c) i.toNatClampNeg x)) r c (4, n) = .inl (I.2.1, n, .inl (upd (N r c) i.toNatClampNeg x)) := by simp only [xcell, xp_eq]
  rw [e7] at e8
  exact k p l e R s m args below meth c0 D I A ρe Ye ρ H1 locs1 cells slots ls Qm C F ⟨e8 ▸ hP, e8 ▸ hD, hS, xZe_N Wo.2.2.2 hY _⟩ Ag hl hb hE
theorem V_aastore {r c n a a' : Nat} {i : Int32} (hd : decode cc pc = .ok (.aastore, 1)) (hY : ((r, c), (2, n)) ∈ Y) (hin : vp_in i n) (hv : ((a, a'), (0, 5)) ∈ Y) (k : V own ini cc nL ret X d b (pc + 1) loc st Y (xg G r c (va_up (G r c) i.toNatClampNeg (some (a, a')))) N Q) : V own ini cc nL ret X d b pc loc (xR a a' :: xI i :: xR r c :: st) Y G N Q := by
  intro p l e R s m args below meth c0 D I A ρe Ye ρ H locs cells slots ls Qm C F Wo Ag hl hb hE
  obtain ⟨j, hj⟩ := List.getElem?_of_mem hY
  obtain ⟨j2, hj2⟩ := List.getElem?_of_mem hv
  refine va_astq C.1 C.2.1 F.1 Wo.1 Wo.2.1 Wo.2.2.1 j 2 j2 5 (r := (RX5, TX5, 15)) (xw_get hj) rfl (xw_get hj2) rfl hin hd (fun H1 locs1 hP hD hS => ?_)
  have e8 := xw_G Wo.2.1 hj (va_up (G r c) i.toNatClampNeg (some (a, a')))
  have e7 : xcell I ρ (xg G r c (va_up (G r c) i.toNatClampNeg (some (a, a')))) N r c (2, n) = .inl (I.2.2.1, n, .inr (.inr (.inr (.inr (va_up (fun i => xq ρ (G r c i)) i.toNatClampNeg (some (ρ a a'))))))) := by
    simp only [xcell, xg_eq]
    congr 7
    funext z
    by_cases hz : z = i.toNatClampNeg
    · subst hz; rw [va_up_eq, va_up_eq]; rfl
    · rw [va_up_no _ _ hz, va_up_no _ _ hz]
  rw [e7] at e8
  exact k p l e R s m args below meth c0 D I A ρe Ye ρ H1 locs1 cells slots ls Qm C F ⟨e8 ▸ hP, e8 ▸ hD, hS, xZe_G Wo.2.2.2 hY (fun q hq => ⟨_, by cases hq; exact hv⟩)⟩ Ag hl hb hE
theorem V_alenR {r c n : Nat} {v : Int32} (hd : decode cc pc = .ok (.arraylength, 1)) (hY : ((r, c), (2, n)) ∈ Y) (hv : Int32.ofNat n = v) (k : V own ini cc nL ret X d b (pc + 1) loc (xI v :: st) Y G N Q) : V own ini cc nL ret X d b pc loc (xR r c :: st) Y G N Q := by
  intro p l e R s m args below meth c0 D I A ρe Ye ρ H locs cells slots ls Qm C F Wo Ag hl hb hE
  obtain ⟨j, hj⟩ := List.getElem?_of_mem hY
  exact va_alen C.1 C.2.1 F.1 Wo.1 j 2 (xw_get hj) (ty := .object "MarbleRun$Track") rfl hv hd (k p l e R s m args below meth c0 D I A ρe Ye ρ H locs cells slots ls Qm C F Wo Ag hl hb hE)
theorem V_gaload {r c n a a' : Nat} {i : Int32} (hd : decode cc pc = .ok (.aaload, 1)) (hY : ((r, c), (3, n)) ∈ Y) (hin : vp_in i n) (hg : G r c i.toNatClampNeg = some (a, a')) (k : V own ini cc nL ret X d b (pc + 1) loc (xR a a' :: st) Y G N Q) : V own ini cc nL ret X d b pc loc (xI i :: xR r c :: st) Y G N Q := by
  intro p l e R s m args below meth c0 D I A ρe Ye ρ H locs cells slots ls Qm C F Wo Ag hl hb hE
  obtain ⟨j, hj⟩ := List.getElem?_of_mem hY
  have hlt : i.toNatClampNeg < n := Nat.not_le.mp fun q => hin (Or.inr q)
  refine W.aald (v := va_rf (xq ρ (G r c i.toNatClampNeg))) (ty := .array .int) C.1 C.2.1 (Wo.1 j _ (xw_get hj)) ((F.1.2 3 _ rfl).1 n (fun z => va_rf (xq ρ (G r c z)))) rfl (fun q => by cases q) (by show ¬ (i < 0 ∨ (arrV _ _ _).slots.size ≤ _); rw [arrV_size]; exact hin) (by show (arrV _ _ _).slots[_]? = _; rw [arrV_read _ _ hlt]) rfl rfl hd ?_
  rw [hg]
  exact k p l e R s m args below meth c0 D I A ρe Ye ρ H locs cells slots ls Qm C F Wo Ag hl hb hE
theorem V_acopy {r1 c1 n1 r2 c2 n2 idx : Nat} {sp dp n : Int32} (hd : decode cc pc = .ok (.invokestatic idx, 3)) (hw : Cond.methodLink own idx arraycopyName ∈ xWd) (h1 : ((r1, c1), (1, n1)) ∈ Y) (h2 : ((r2, c2), (1, n2)) ∈ Y) (hs : ¬ sp < 0) (hp : ¬ dp < 0) (hn : ¬ n < 0) (hsn : sp.toNatClampNeg + n.toNatClampNeg ≤ n1) (hpn : dp.toNatClampNeg + n.toNatClampNeg ≤ n2) (hst : st.length ≤ 4)
    (k : V own ini cc nL ret X (d + 1) b (pc + 3) loc st Y G (xp N r2 c2 (va_cpy (N r1 c1) (N r2 c2) sp.toNatClampNeg dp.toNatClampNeg n.toNatClampNeg)) Q) : V own ini cc nL ret X (d + 1) b pc loc (xI n :: xI dp :: xR r2 c2 :: xI sp :: xR r1 c1 :: st) Y G N Q := by
  intro p l e R s m args below meth c0 D I A ρe Ye ρ H locs cells slots ls Qm C F Wo Ag hl hb hE
  obtain ⟨j1, hj1⟩ := List.getElem?_of_mem h1
  obtain ⟨j2, hj2⟩ := List.getElem?_of_mem h2
  have hfr : d + 1 ≤ R.frames := C.2.2.2.2.2.2.2.1
  have hlo : 64 * (d + 1) ≤ R.locals := C.2.2.2.2.2.2.2.2.1
  have hts := C.2.2.2.2.2.2.1
  refine va_copyi (ty := .int) C.1 C.2.1 (C.2.2.2.2.1.trans hl.1.1.symm) C.2.2.2.2.2.1 (hts _ hw) (hts _ xw_copy_n) (hts _ xw_copy_s) (hts _ xw_copy_i) F.1 Wo.1 Wo.2.1 Wo.2.2.1 j1 j2 0 0 (xw_get hj1) (xw_get hj2) rfl rfl rfl hs hp hn hsn hpn (fun _ _ => rfl) (by omega) ?_ hd (fun H1 locs1 hP hD hS => ?_)
  · have e1 := xcat_le ρ st
    have e2 : nativeFrameWords "java/lang/System" "arraycopy" 5 = 7 := by decide +kernel
    rw [e2]
    omega
  · have e8 := xw_N Wo.2.1 hj2 (va_cpy (N r1 c1) (N r2 c2) sp.toNatClampNeg dp.toNatClampNeg n.toNatClampNeg)
    have e7 : xcell I ρ G (xp N r2 c2 (va_cpy (N r1 c1) (N r2 c2) sp.toNatClampNeg dp.toNatClampNeg n.toNatClampNeg)) r2 c2 (1, n2) = .inl (I.1, n2, .inl (va_cpy (N r1 c1) (N r2 c2) sp.toNatClampNeg dp.toNatClampNeg n.toNatClampNeg)) := by simp only [xcell, xp_eq]
    rw [e7] at e8
    exact k p l e R s m args below meth c0 D I A ρe Ye ρ H1 locs1 cells slots ls Qm C F ⟨e8 ▸ hP, e8 ▸ hD, hS, xZe_N Wo.2.2.2 h2 _⟩ Ag hl hb hE
theorem V_getP {idx : Nat} (hd : decode cc pc = .ok (.getstatic idx, 3)) (hw : Cond.fieldLink own idx "MarbleRun$Asker" "PARENTS" "[I" ∈ xWd) (k : V own ini cc nL ret X d b (pc + 3) loc (xR 1000001 0 :: st) Y G N Q) : V own ini cc nL ret X d b pc loc st Y G N Q := by
  intro p l e R s m args below meth c0 D I A ρe Ye ρ H locs cells slots ls Qm C F Wo Ag hl hb hE
  refine va_gets C.1 C.2.1 F.2.2.2.2.2.1 Wo.2.2.1 C.2.2.2.2.2.1 (C.2.2.2.2.2.2.1 _ hw) (fun _ h => h) hd ?_
  rw [← Ag.2 1000001 0 (by decide)]
  exact k p l e R s m args below meth c0 D I A ρe Ye ρ H locs cells slots ls Qm C F Wo Ag hl hb hE
theorem V_plen (hd : decode cc pc = .ok (.arraylength, 1)) (k : V own ini cc nL ret X d b (pc + 1) loc (xI 6 :: st) Y G N Q) : V own ini cc nL ret X d b pc loc (xR 1000001 0 :: st) Y G N Q := by
  intro p l e R s m args below meth c0 D I A ρe Ye ρ H locs cells slots ls Qm C F Wo Ag hl hb hE
  show W p l e R s m args below meth c0 H locs cells slots Qm (F0 m pc ls (.ref (ρ 1000001 0) :: st.map (xt ρ)))
  rw [Ag.2 1000001 0 (by decide)]
  obtain ⟨cell, g1, g2, g3, g4, g5, g6, g7⟩ := F.2.2.2.2.2.2.1
  exact W.alen (n := 6) C.1 C.2.1 (by rw [Wo.2.2.1.2.1 _ (Array.getElem?_eq_some_iff.mp g1).1 g7]; exact g1) g2 g5 rfl rfl hd (k p l e R s m args below meth c0 D I A ρe Ye ρ H locs cells slots ls Qm C F Wo Ag hl hb hE)
theorem V_pload {i : Int32} (hd : decode cc pc = .ok (.iaload, 1)) (hin : vp_in i 6) (k : V own ini cc nL ret X d b (pc + 1) loc (xI (xPar i.toNatClampNeg) :: st) Y G N Q) : V own ini cc nL ret X d b pc loc (xI i :: xR 1000001 0 :: st) Y G N Q := by
  intro p l e R s m args below meth c0 D I A ρe Ye ρ H locs cells slots ls Qm C F Wo Ag hl hb hE
  show W p l e R s m args below meth c0 H locs cells slots Qm (F0 m pc ls (.int i :: .ref (ρ 1000001 0) :: st.map (xt ρ)))
  rw [Ag.2 1000001 0 (by decide)]
  exact va_ti C.1 C.2.1 F.2.2.2.2.2.2.1 Wo.2.2.1 hin rfl hd (k p l e R s m args below meth c0 D I A ρe Ye ρ H locs cells slots ls Qm C F Wo Ag hl hb hE)
theorem V_slen {L : Nat} {xs : Nat → Int32} (hX : X = some (L, xs)) (hd : decode cc pc = .ok (.arraylength, 1)) (k : V own ini cc nL ret X d b (pc + 1) loc (xI (Int32.ofNat L) :: st) Y G N Q) : V own ini cc nL ret X d b pc loc (xR 1000000 0 :: st) Y G N Q := by
  intro p l e R s m args below meth c0 D I A ρe Ye ρ H locs cells slots ls Qm C F Wo Ag hl hb hE
  obtain ⟨g1, g2, g3⟩ := F.2.2.2.2.2.2.2 L xs hX
  show W p l e R s m args below meth c0 H locs cells slots Qm (F0 m pc ls (.ref (ρ 1000000 0) :: st.map (xt ρ)))
  rw [Ag.2 1000000 0 (by decide)]
  exact va_slen C.1 C.2.1 g1 g2 g3 Wo.2.2.1 hd (k p l e R s m args below meth c0 D I A ρe Ye ρ H locs cells slots ls Qm C F Wo Ag hl hb hE)
theorem V_sld {L : Nat} {xs : Nat → Int32} {i : Int32} (hX : X = some (L, xs)) (hd : decode cc pc = .ok (.iaload, 1)) (hin : vp_in i L) (k : V own ini cc nL ret X d b (pc + 1) loc (xI (xs i.toNatClampNeg) :: st) Y G N Q) : V own ini cc nL ret X d b pc loc (xI i :: xR 1000000 0 :: st) Y G N Q := by
  intro p l e R s m args below meth c0 D I A ρe Ye ρ H locs cells slots ls Qm C F Wo Ag hl hb hE
  obtain ⟨g1, g2, g3⟩ := F.2.2.2.2.2.2.2 L xs hX
  show W p l e R s m args below meth c0 H locs cells slots Qm (F0 m pc ls (.int i :: .ref (ρ 1000000 0) :: st.map (xt ρ)))
  rw [Ag.2 1000000 0 (by decide)]
  exact va_sld C.1 C.2.1 g1 g2 g3 Wo.2.2.1 hin hd (k p l e R s m args below meth c0 D I A ρe Ye ρ H locs cells slots ls Qm C F Wo Ag hl hb hE)
end XR
