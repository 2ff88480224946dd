/-! THE ABSTRACT WORLD: regions and their cells; ints by (region, cell, slot), references by (region, cell) -/
abbrev xAV : Type := (Int32 ⊕ Int64) ⊕ Option (Nat × Nat)
abbrev xI (v : Int32) : xAV := Sum.inl (Sum.inl v)
abbrev xJ (v : Int64) : xAV := Sum.inl (Sum.inr v)
abbrev xR (r c : Nat) : xAV := Sum.inr (some (r, c))
abbrev xN : xAV := Sum.inr none
abbrev xP : Type := Nat → Nat → Nat
def xt (ρ : xP) : xAV → Value
  | .inl (.inl v) => .int v
  | .inl (.inr v) => .long v
  | .inr (some q) => .ref (ρ q.1 q.2)
  | .inr none => .null
abbrev xY : Type := List ((Nat × Nat) × (Nat × Nat))
abbrev xG : Type := Nat → Nat → Nat → Option (Nat × Nat)
abbrev xM : Type := Nat → Nat → Nat → Int32
abbrev xD : Type := ClassId × ClassId × ClassId × ClassId
/-- which fields of a class are references -/
def xF : Nat → List Bool
  | 0 => [true, false, false]
  | 1 => [true, false]
  | 2 => [true, true, true]
  | 3 => [true, true, true, true, true, true, true, false, false, false, false]
  | 4 => [true, false, false, false, false]
  | 5 => [false, false, false, false, false, true, true, true, true, true, true, true, true, true, true]
  | 6 => [true, true, true, true, true, true, true, true, false, false]
  | 7 => [true, true, true, false, true, false, false, false, false, false, true, false, true, true, false, true, true, true, true, true, false, false, false, false, false, false, false, true, true, true, true, true]
  | _ => []
def xq (ρ : xP) (o : Option (Nat × Nat)) : Option Nat := o.map (fun q => ρ q.1 q.2)
def xfs (ρ : xP) (G : xG) (N : xM) (r c ci : Nat) : List Value := (xF ci).mapIdx (fun k b => if b then va_rf (xq ρ (G r c k)) else .int (N r c k))
def xcell (I : xD) (ρ : xP) (G : xG) (N : xM) (r c : Nat) : Nat × Nat → va_E
  | (0, ci) => .inr (ci, xfs ρ G N r c ci)
  | (1, n) => .inl (I.1, n, .inl (N r c))
  | (2, n) => .inl (I.2.2.1, n, .inr (.inr (.inr (.inr (fun i => xq ρ (G r c i))))))
  | (3, n) => .inl (I.2.2.2, n, .inr (.inr (.inr (.inr (fun i => xq ρ (G r c i))))))
  | (_, n) => .inl (I.2.1, n, .inl (N r c))
def xw (I : xD) (ρ : xP) (Y : xY) (G : xG) (N : xM) : va_W := Y.map (fun q => (ρ q.1.1 q.1.2, xcell I ρ G N q.1.1 q.1.2 q.2))
def xp (N : xM) (r c : Nat) (f : Nat → Int32) : xM := va_up N r (va_up (N r) c f)
def xg (G : xG) (r c : Nat) (f : Nat → Option (Nat × Nat)) : xG := va_up G r (va_up (G r) c f)
theorem va_up_eq {α : Type} (f : Nat → α) (k : Nat) (v : α) : va_up f k v k = v := if_pos rfl
theorem va_up_no {α : Type} (f : Nat → α) {k j : Nat} (v : α) (h : j ≠ k) : va_up f k v j = f j := if_neg h
theorem va_up_id {α : Type} (f : Nat → α) (k : Nat) : va_up f k (f k) = f := by
  funext j
  by_cases h : j = k
  · rw [h, va_up_eq]
  · rw [va_up_no _ _ h]
theorem xp_eq (N : xM) (r c : Nat) (f : Nat → Int32) : xp N r c f r c = f := by unfold xp; rw [va_up_eq, va_up_eq]
theorem xp_no (N : xM) {r c r' c' : Nat} (f : Nat → Int32) (h : ¬ (r' = r ∧ c' = c)) : xp N r c f r' c' = N r' c' := by
  unfold xp
  by_cases hr : r' = r
  · subst hr
    rw [va_up_eq, va_up_no _ _ (fun e => h ⟨rfl, e⟩)]
  · rw [va_up_no _ _ hr]
theorem xg_eq (G : xG) (r c : Nat) (f : Nat → Option (Nat × Nat)) : xg G r c f r c = f := by unfold xg; rw [va_up_eq, va_up_eq]
theorem xg_no (G : xG) {r c r' c' : Nat} (f : Nat → Option (Nat × Nat)) (h : ¬ (r' = r ∧ c' = c)) : xg G r c f r' c' = G r' c' := by
  unfold xg
  by_cases hr : r' = r
  · subst hr
    rw [va_up_eq, va_up_no _ _ (fun e => h ⟨rfl, e⟩)]
  · rw [va_up_no _ _ hr]
theorem xcell_congr {I : xD} {ρ : xP} {G G' : xG} {N N' : xM} {r c : Nat} (h1 : G r c = G' r c) (h2 : N r c = N' r c) (k : Nat × Nat) : xcell I ρ G N r c k = xcell I ρ G' N' r c k := by
  rcases k with ⟨_ | _ | _ | _ | k, n⟩ <;> simp [xcell, xfs, h1, h2]
theorem xw_get {I : xD} {ρ : xP} {Y : xY} {G : xG} {N : xM} {i r c : Nat} {k : Nat × Nat} (h : Y[i]? = some ((r, c), k)) : (xw I ρ Y G N)[i]? = some (ρ r c, xcell I ρ G N r c k) := by
  unfold xw
  rw [List.getElem?_map, h]
  rfl
theorem xw_set {I : xD} {ρ : xP} {Y : xY} {G G' : xG} {N N' : xM} {A : Nat → Prop} {i r c : Nat} {k : Nat × Nat} (hD : va_D A (xw I ρ Y G N)) (h : Y[i]? = some ((r, c), k)) (hN : ∀ r' c', ¬ (r' = r ∧ c' = c) → N r' c' = N' r' c') (hG : ∀ r' c', ¬ (r' = r ∧ c' = c) → G r' c' = G' r' c') :
    (xw I ρ Y G N).set i (ρ r c, xcell I ρ G' N' r c k) = xw I ρ Y G' N' := by
  apply List.ext_getElem?
  intro j
  have hlt : i < (xw I ρ Y G N).length := (List.getElem?_eq_some_iff.mp (xw_get h)).1
  by_cases e : j = i
  · subst e
    rw [List.getElem?_set_self hlt, xw_get h]
  · rw [List.getElem?_set_ne (fun q => e q.symm)]
    cases hj : Y[j]? with
    | none => unfold xw; rw [List.getElem?_map, List.getElem?_map, hj]; rfl
    | some q =>
      obtain ⟨⟨r', c'⟩, k'⟩ := q
      rw [xw_get hj, xw_get hj]
      have hne : ¬ (r' = r ∧ c' = c) := by
        rintro ⟨rfl, rfl⟩
        exact e (hD.1 j i _ _ (xw_get hj) (xw_get h) rfl)
      rw [xcell_congr (hG r' c' hne) (hN r' c' hne)]
theorem xw_app {I : xD} {ρ : xP} {Y Y' : xY} {G : xG} {N : xM} : xw I ρ (Y ++ Y') G N = xw I ρ Y G N ++ xw I ρ Y' G N := by
  unfold xw; rw [List.map_append]
/-- the addresses of what is there (and of what it points at) alone matter -/
theorem xw_rho {I : xD} {ρ ρ' : xP} {Y : xY} {G : xG} {N : xM} (h : ∀ q k, (q, k) ∈ Y → ρ' q.1 q.2 = ρ q.1 q.2) (hG : ∀ r c k q, G r c k = some q → ∃ kd, (q, kd) ∈ Y) : xw I ρ' Y G N = xw I ρ Y G N := by
  have hq : ∀ r c k, xq ρ' (G r c k) = xq ρ (G r c k) := by
    intro r c k
    unfold xq
    cases hg : G r c k with
    | none => rfl
    | some q =>
      obtain ⟨kd, hk⟩ := hG r c k q hg
      simp [h q kd hk]
  have hc : ∀ r c k, xcell I ρ' G N r c k = xcell I ρ G N r c k := by
    intro r c k
    rcases k with ⟨_ | _ | _ | _ | k, n⟩ <;> simp [xcell, xfs, hq]
  unfold xw
  apply List.map_congr_left
  intro q hq'
  obtain ⟨q, k⟩ := q
  rw [h q k hq', hc]
theorem xfs_len {ρ : xP} {G : xG} {N : xM} {r c ci : Nat} : (xfs ρ G N r c ci).length = (xF ci).length := by unfold xfs; rw [List.length_mapIdx]
theorem xfs_I {ρ : xP} {G : xG} {N : xM} {r c ci k : Nat} (h : (xF ci)[k]? = some false) : (xfs ρ G N r c ci)[k]? = some (.int (N r c k)) := by
  unfold xfs; rw [List.getElem?_mapIdx, h]; rfl
theorem xfs_R {ρ : xP} {G : xG} {N : xM} {r c ci k : Nat} (h : (xF ci)[k]? = some true) : (xfs ρ G N r c ci)[k]? = some (va_rf (xq ρ (G r c k))) := by
  unfold xfs; rw [List.getElem?_mapIdx, h]; rfl
theorem xfs_setI {ρ : xP} {G : xG} {N : xM} {r c ci k : Nat} {x : Int32} (h : (xF ci)[k]? = some false) : (xfs ρ G N r c ci).set k (.int x) = xfs ρ G (xp N r c (upd (N r c) k x)) r c ci := by
  apply List.ext_getElem?
  intro j
  have hlt : k < (xfs ρ G N r c ci).length := (List.getElem?_eq_some_iff.mp (xfs_I h)).1
  by_cases e : j = k
  · subst e
    rw [List.getElem?_set_self hlt, xfs_I h, xp_eq]
    simp [upd]
  · rw [List.getElem?_set_ne (fun q => e q.symm)]
    unfold xfs
    rw [List.getElem?_mapIdx, List.getElem?_mapIdx, xp_eq]
    simp [upd, e]
theorem xfs_setR {ρ : xP} {G : xG} {N : xM} {r c ci k : Nat} {x : Option (Nat × Nat)} (h : (xF ci)[k]? = some true) : (xfs ρ G N r c ci).set k (va_rf (xq ρ x)) = xfs ρ (xg G r c (va_up (G r c) k x)) N r c ci := by
  apply List.ext_getElem?
  intro j
  have hlt : k < (xfs ρ G N r c ci).length := (List.getElem?_eq_some_iff.mp (xfs_R h)).1
  by_cases e : j = k
  · subst e
    rw [List.getElem?_set_self hlt, xfs_R h, xg_eq, va_up_eq]
  · rw [List.getElem?_set_ne (fun q => e q.symm)]
    unfold xfs
    rw [List.getElem?_mapIdx, List.getElem?_mapIdx, xg_eq]
    simp [va_up, e]
/-- the locals, listed as the kit lists them -/
def xL (ρ : xP) : Nat → List (Option xAV) → List (Nat × Value)
  | _, [] => []
  | i, none :: l => xL ρ (i + 1) l
  | i, some v :: l => (i, xt ρ v) :: xL ρ (i + 1) l
theorem xL_mem {ρ : xP} {j : Nat} {w : Value} : ∀ {l : List (Option xAV)} {i : Nat}, (j, w) ∈ xL ρ i l ↔ ∃ v, i ≤ j ∧ l[j - i]? = some (some v) ∧ w = xt ρ v
  | [], i => by simp [xL]
  | none :: l, i => by
    rw [xL, xL_mem]
    constructor
    · rintro ⟨v, h1, h2, h3⟩
      refine ⟨v, by omega, ?_, h3⟩
      rw [show j - i = (j - (i + 1)) + 1 by omega]
      exact h2
    · rintro ⟨v, h1, h2, h3⟩
      have hne : j ≠ i := by
        rintro rfl
        rw [Nat.sub_self] at h2
        cases h2
      refine ⟨v, by omega, ?_, h3⟩
      rw [show j - i = (j - (i + 1)) + 1 by omega] at h2
      exact h2
  | some v0 :: l, i => by
    rw [xL, List.mem_cons, xL_mem]
    constructor
    · rintro (h | ⟨v, h1, h2, h3⟩)
      · cases h
        exact ⟨v0, Nat.le_refl _, by rw [Nat.sub_self]; rfl, rfl⟩
      · refine ⟨v, by omega, ?_, h3⟩
        rw [show j - i = (j - (i + 1)) + 1 by omega]
        exact h2
    · rintro ⟨v, h1, h2, h3⟩
      by_cases hne : j = i
      · subst hne
        rw [Nat.sub_self] at h2
        cases h2
        exact Or.inl (by rw [h3])
      · refine Or.inr ⟨v, by omega, ?_, h3⟩
        rw [show j - i = (j - (i + 1)) + 1 by omega] at h2
        exact h2
theorem xL_at {ρ : xP} {ls : Array Slot} {nL : Nat} {loc : List (Option xAV)} (h : lv_has ls nL (xL ρ 0 loc)) {k : Nat} {v : xAV} (hk : loc[k]? = some (some v)) : ls[k]? = some (.val (xt ρ v)) :=
  h.2.2 (k, xt ρ v) (xL_mem.mpr ⟨v, Nat.zero_le _, hk, rfl⟩)
theorem xL_cat (ρ : xP) (v : xAV) : (xt ρ v).category = 2 ↔ ∃ x, v = xJ x := by
  rcases v with (v | v) | (_ | v) <;> simp [xt, Value.category]
/-- a store of one word: the place's own value; what stands before it may be no long -/
theorem xL_set1 {ρ : xP} {loc : List (Option xAV)} {i : Nat} {v : xAV} (hi : i < loc.length) (hp : ∀ x, loc[i - 1]? = some (some (xJ x)) → i = 0) : ∀ q ∈ xL ρ 0 (loc.set i (some v)), q ∈ (i, xt ρ v) :: (xL ρ 0 loc).filter (fun q => !(q.1 == i) && !(q.1 + 1 == i && q.2.category == 2)) := by
  rintro ⟨j, w⟩ hq
  obtain ⟨u, -, h2, rfl⟩ := xL_mem.mp hq
  rw [Nat.sub_zero] at h2
  by_cases e : j = i
  · subst e
    rw [List.getElem?_set_self hi] at h2
    cases h2
    exact List.mem_cons_self
  · rw [List.getElem?_set_ne (fun q => e q.symm)] at h2
    refine List.mem_cons_of_mem _ (List.mem_filter.mpr ⟨xL_mem.mpr ⟨u, Nat.zero_le _, h2, rfl⟩, ?_⟩)
    have h3 : ¬ (j + 1 = i ∧ (xt ρ u).category = 2) := by
      rintro ⟨h4, h5⟩
      obtain ⟨x, rfl⟩ := (xL_cat ρ u).mp h5
      have := hp x (by rw [show i - 1 = j by omega]; exact h2)
      omega
    simp only [Bool.and_eq_true, Bool.not_eq_true', beq_eq_false_iff_ne, ne_eq, Bool.and_eq_false_iff]
    refine ⟨e, ?_⟩
    by_cases h4 : j + 1 = i
    · exact Or.inr (fun h5 => h3 ⟨h4, h5⟩)
    · exact Or.inl h4
theorem xL_set2 {ρ : xP} {loc : List (Option xAV)} {i : Nat} {v : xAV} (hi : i + 1 < loc.length) (hp : ∀ x, loc[i - 1]? = some (some (xJ x)) → i = 0) : ∀ q ∈ xL ρ 0 ((loc.set i (some v)).set (i + 1) none), q ∈ (i, xt ρ v) :: (xL ρ 0 loc).filter (fun q => !(q.1 == i) && (!(q.1 == i + 1) && !(q.1 + 1 == i && q.2.category == 2))) := by
  rintro ⟨j, w⟩ hq
  obtain ⟨u, -, h2, rfl⟩ := xL_mem.mp hq
  rw [Nat.sub_zero] at h2
  by_cases e1 : j = i + 1
  · subst e1
    rw [List.getElem?_set_self (by rw [List.length_set]; exact hi)] at h2
    cases h2
  rw [List.getElem?_set_ne (fun q => e1 q.symm)] at h2
  by_cases e : j = i
  · subst e
    rw [List.getElem?_set_self (by omega)] at h2
    cases h2
    exact List.mem_cons_self
  · rw [List.getElem?_set_ne (fun q => e q.symm)] at h2
    refine List.mem_cons_of_mem _ (List.mem_filter.mpr ⟨xL_mem.mpr ⟨u, Nat.zero_le _, h2, rfl⟩, ?_⟩)
    have h3 : ¬ (j + 1 = i ∧ (xt ρ u).category = 2) := by
      rintro ⟨h4, h5⟩
      obtain ⟨x, rfl⟩ := (xL_cat ρ u).mp h5
      have := hp x (by rw [show i - 1 = j by omega]; exact h2)
      omega
    simp only [Bool.and_eq_true, Bool.not_eq_true', beq_eq_false_iff_ne, ne_eq, Bool.and_eq_false_iff]
    refine ⟨e, e1, ?_⟩
    by_cases h4 : j + 1 = i
    · exact Or.inr (fun h5 => h3 ⟨h4, h5⟩)
    · exact Or.inl h4
theorem lv_less {ls : Array Slot} {nL : Nat} {l l' : List (Nat × Value)} (h : lv_has ls nL l) (hl : ∀ q ∈ l', q ∈ l) : lv_has ls nL l' := ⟨h.1, h.2.1, fun q hq => h.2.2 q (hl q hq)⟩
/-- the locals at a method's entry -/
def xE : List xAV → List (Option xAV)
  | [] => []
  | .inl (.inr v) :: l => some (xJ v) :: none :: xE l
  | v :: l => some v :: xE l
theorem xE_in {ρ : xP} {q : Nat × Value} {n : Nat} : ∀ (as : List xAV) (i : Nat), q ∈ xL ρ i (xE as ++ List.replicate n none) → q ∈ lv_args i (as.map (xt ρ))
  | [], i => by
    intro h
    obtain ⟨j, w⟩ := q
    obtain ⟨v, h1, h2, -⟩ := xL_mem.mp h
    rw [xE, List.nil_append, List.getElem?_replicate] at h2
    split at h2 <;> cases h2
  | .inl (.inr v) :: as, i => by
    intro h
    rw [xE, List.cons_append, List.cons_append, xL, xL, List.mem_cons] at h
    rw [List.map_cons, lv_args]
    rcases h with h | h
    · exact List.mem_cons.mpr (Or.inl h)
    · exact List.mem_cons_of_mem _ (xE_in as (i + 2) h)
  | .inl (.inl v) :: as, i => by
    intro h
    rw [xE, List.cons_append, xL, List.mem_cons] at h
    · rw [List.map_cons, lv_args]
      rcases h with h | h
      · exact List.mem_cons.mpr (Or.inl h)
      · exact List.mem_cons_of_mem _ (xE_in as (i + 1) h)
    · intro v h; cases h
  | .inr v :: as, i => by
    intro h
    rw [xE, List.cons_append, xL, List.mem_cons] at h
    · rw [List.map_cons, lv_args]
      have hc : ¬ (xt ρ (.inr v)).category = 2 := by rcases v with _ | v <;> simp [xt, Value.category]
      rw [if_neg hc]
      rcases h with h | h
      · exact List.mem_cons.mpr (Or.inl h)
      · exact List.mem_cons_of_mem _ (xE_in as (i + 1) h)
    · intro v h; cases h
