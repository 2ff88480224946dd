/-! new int[8][40] -/
def mnG : Nat → Option (Nat × Nat) := fun i => if i < 8 then some (1, 10 + i) else none
def mnY : xY := (List.range 8).map (fun i => ((1, 10 + i), (1, 40)))
def mnP (ρ : xP) (q : Nat) (r : Nat → Nat) : xP := fun r' c' => if r' = 1 ∧ c' = 1 then q else if r' = 1 ∧ 10 ≤ c' ∧ c' < 18 then r (c' - 10) else ρ r' c'
theorem mnY_in {q : Nat × Nat} {k : Nat × Nat} (h : (q, k) ∈ mnY) : q.1 = 1 ∧ 10 ≤ q.2 ∧ q.2 < 18 := by
  unfold mnY at h
  obtain ⟨i, hi, e⟩ := List.mem_map.mp h
  have := List.mem_range.mp hi
  cases e
  exact ⟨rfl, by omega, by omega⟩
theorem mnY_at {i : Nat} (h : i < 8) : ((1, 10 + i), (1, 40)) ∈ mnY := List.mem_map.mpr ⟨i, List.mem_range.mpr h, rfl⟩
theorem mnP_ag {Y : xY} {ρ : xP} {q : Nat} {r : Nat → Nat} {Z : xY} (h0 : ∀ k, ((1, 1), k) ∉ Y) (h1 : ∀ i, i < 8 → ∀ k, ((1, 10 + i), k) ∉ Y) : xAg Y ρ (Y ++ Z) (mnP ρ q r) := by
  refine ⟨fun a k h => ⟨?_, List.mem_append_left _ h⟩, fun r' c' h => ?_⟩
  · unfold mnP
    obtain ⟨a1, a2⟩ := a
    rw [if_neg, if_neg]
    · rintro ⟨e1, e2, e3⟩
      have e4 : a1 = 1 := e1
      have e5 : 10 ≤ a2 := e2
      have e6 : a2 < 18 := e3
      subst e4
      have := h1 (a2 - 10) (by omega) k
      rw [show 10 + (a2 - 10) = a2 by omega] at this
      exact this h
    · rintro ⟨e1, e2⟩
      cases e1; cases e2
      exact h0 k h
  · unfold mnP
    rw [if_neg (by omega), if_neg (by omega)]
section XR
variable {own : String} {ini : Bool} {cc : ByteArray} {nL : Nat} {ret : Option FieldType} {X : Option (Nat × (Nat → Int32))} {d : Nat} {b : Nat × Nat} {pc : Nat} {loc : List (Option xAV)} {st : List xAV} {Y : xY} {G : xG} {N : xM} {Q : Option xAV → xY → xG → xM → Prop}
theorem V_mna {idx : Nat} (hd : decode cc pc = .ok (.multianewarray idx 2, 4)) (hw : Cond.classLink own idx "[[I" ∈ xWd) (hf0 : ∀ k, ((1, 1), k) ∉ Y) (hf : ∀ i, i < 8 → ∀ k, ((1, 10 + i), k) ∉ Y) (hvs : xVs Y loc st) (k : V own ini cc nL ret X d b (pc + 4) loc (xR 1 1 :: st) (Y ++ ([((1, 1), (3, 8))] ++ mnY)) (xg G 1 1 mnG) N Q) : V own ini cc nL ret X d (b.1 + 9, b.2 + 328) pc loc (xI (nI 40) :: xI (nI 8) :: st) Y G N Q := by
  intro p l e R s m args below meth c0 D I A ρe Ye ρ H locs cells slots ls Qm C F Wo Ag hl hb hE
  have hts := C.2.2.2.2.2.2.1
  have hb1 : cells + (b.1 + 9) ≤ R.cells := hb.1
  have hb2 : slots + (b.2 + 328) ≤ R.slots := hb.2
  clear hb
  have hcy : s.vm.findClass (FieldType.array .int).toString = some I.1 := (F.1.2 0 (I.1, .int) rfl).2
  have hP0 : va_P D vwCl (xw I ρ Y G N ++ va_pl [] (fun _ => .inr (0, []))) H := by
    show va_P D vwCl (xw I ρ Y G N ++ []) H
    rw [List.append_nil]
    exact Wo.1
  have hD0 : va_D A (xw I ρ Y G N ++ va_pl [] (fun _ => .inr (0, []))) := by
    show va_D A (xw I ρ Y G N ++ [])
    rw [List.append_nil]
    exact Wo.2.1
  have hz0 : ∀ c : ClassId, Jvm.Free.Multi.innerC c 40 (defaultValue .int) = vp_cell c (40, .inl (fun _ => 0)) := by
    intro c
    unfold Jvm.Free.Multi.innerC
    rw [arrV_new, vp_cell_i]
    rfl
  have hs3 : cells + 1 + 8 + b.1 ≤ R.cells ∧ slots + 8 + 8 * 40 + b.2 ≤ R.slots := by
    refine ⟨by omega, ?_⟩
    have e : slots + 8 + 8 * 40 + b.2 = slots + (b.2 + 328) := by rw [Nat.add_comm b.2 328, ← Nat.add_assoc]
    rw [e]
    exact hb2
  have hs1 : cells + (1 + 8) ≤ R.cells := by omega
  have hs2 : slots + (8 + 8 * 40) ≤ R.slots := Nat.le_trans (Nat.add_le_add_left (Nat.le_add_left 328 b.2) slots) hb2
  refine va_mna (X := xw I ρ Y G N) (L := []) (f := fun _ => .inr (0, [])) (ty := .int) (cy := I.1) (N' := 8) (K' := 40) (z := (40, .inl (fun _ => 0))) C.1 C.2.1 C.2.2.2.2.2.1 (hts _ hw) F.2.2.1 (hts _ xw_ai) hcy F.1 hP0 hD0 Wo.2.2.1 F.2.2.2.2.1 (by decide) (by decide) (nI_clamp (by decide)) (nI_clamp (by decide)) (Nat.le_of_ble_eq_true rfl) (Nat.le_of_ble_eq_true rfl) (Nat.le_of_ble_eq_true rfl) rfl rfl hs1 hs2 hz0 hd (fun q r cA H1 hinj hnl hK hP hD hS => ?_)
  have g1 : s.vm.findClass ("[" ++ (FieldType.array .int).toString) = some cA := (hK.2 4 (cA, .array .int) rfl).2
  have g2 : s.vm.findClass ("[" ++ (FieldType.array .int).toString) = some I.2.2.2 := (F.1.2 3 (I.2.2.2, .array .int) rfl).2
  have e1 : some cA = some I.2.2.2 := g1.symm.trans g2
  cases e1
  have hag : xAg Y ρ (Y ++ ([((1, 1), (3, 8))] ++ mnY)) (mnP ρ q r) := mnP_ag hf0 hf
  have hz := Wo.2.2.2
  have hxq : ∀ a c i, xq (mnP ρ q r) (G a c i) = xq ρ (G a c i) := by
    intro a c i
    unfold xq
    cases hg : G a c i with
    | none => rfl
    | some z =>
      obtain ⟨kd, hk⟩ := hz.2.1 a c i z hg
      simp only [Option.map_some]
      rw [(hag.1 z kd hk).1]
  have hG : ∀ r' c', ¬ (r' = 1 ∧ c' = 1) → xg G 1 1 mnG r' c' = G r' c' := fun r' c' h => xg_no G mnG h
  have hw1 : xw I (mnP ρ q r) Y (xg G 1 1 mnG) N = xw I ρ Y G N := by
    rw [← xw_rho (ρ' := mnP ρ q r) (fun a k' h => (hag.1 a k' h).1) hz.2.1]
    unfold xw
    apply List.map_congr_left
    rintro ⟨⟨a1, a2⟩, ka⟩ ha
    have hne : ¬ (a1 = 1 ∧ a2 = 1) := by
      rintro ⟨rfl, rfl⟩
      exact hf0 ka ha
    rw [xcell_congr (hG a1 a2 hne) rfl]
  have hw2 : xw I (mnP ρ q r) [((1, 1), (3, 8))] (xg G 1 1 mnG) N = [(q, .inl (I.2.2.2, 8, .inr (.inr (.inr (.inr (fun i => if i < 8 then some (r i) else none))))))] := by
    show [(mnP ρ q r 1 1, xcell I (mnP ρ q r) (xg G 1 1 mnG) N 1 1 (3, 8))] = _
    have e2 : mnP ρ q r 1 1 = q := by unfold mnP; rw [if_pos ⟨rfl, rfl⟩]
    have e3 : (fun i => xq (mnP ρ q r) (xg G 1 1 mnG 1 1 i)) = (fun i => if i < 8 then some (r i) else none) := by
      funext i
      rw [xg_eq]
      unfold mnG xq
      by_cases hi : i < 8
      · rw [if_pos hi, if_pos hi]
        simp only [Option.map_some]
        unfold mnP
        rw [if_neg (by omega), if_pos ⟨rfl, by omega, by omega⟩, Nat.add_sub_cancel_left]
      · rw [if_neg hi, if_neg hi]
        rfl
    rw [e2]
    simp only [xcell]
    rw [e3]
  have hw3 : xw I (mnP ρ q r) mnY (xg G 1 1 mnG) N = va_pl ([] ++ (List.range 8).map r) (vr_up (fun _ => .inr (0, [])) ((List.range 8).map r) (.inl (I.1, (40, .inl (fun _ => 0))))) := by
    unfold xw mnY va_pl
    rw [List.nil_append, List.map_map, List.map_map]
    apply List.map_congr_left
    intro i hi
    have hi8 := List.mem_range.mp hi
    show (mnP ρ q r 1 (10 + i), xcell I (mnP ρ q r) (xg G 1 1 mnG) N 1 (10 + i) (1, 40)) = (r i, vr_up _ _ _ (r i))
    rw [vr_up_in (List.mem_map.mpr ⟨i, hi, rfl⟩)]
    have e2 : mnP ρ q r 1 (10 + i) = r i := by
      unfold mnP
      rw [if_neg (by omega), if_pos ⟨rfl, by omega, by omega⟩, Nat.add_sub_cancel_left]
    rw [e2]
    have e3 : N 1 (10 + i) = fun _ => 0 := (hz.1 1 (10 + i) (hf i hi8)).1
    simp only [xcell, e3]
  have hww : xw I (mnP ρ q r) (Y ++ ([((1, 1), (3, 8))] ++ mnY)) (xg G 1 1 mnG) N = (xw I ρ Y G N ++ [(q, .inl (I.2.2.2, 8, .inr (.inr (.inr (.inr (fun i => if i < 8 then some (r i) else none))))))]) ++ va_pl ([] ++ (List.range 8).map r) (vr_up (fun _ => .inr (0, [])) ((List.range 8).map r) (.inl (I.1, (40, .inl (fun _ => 0))))) := by
    rw [xw_app, xw_app, hw1, hw2, hw3, List.append_assoc]
  rw [← hww] at hP hD
  have hz2 : xZe (Y ++ ([((1, 1), (3, 8))] ++ mnY)) (xg G 1 1 mnG) N := by
    refine ⟨fun r' c' h => ?_, fun a c i z h => ?_, fun a k' h => ?_⟩
    · have h1 := hz.1 r' c' (fun k' hk => h k' (List.mem_append_left _ hk))
      refine ⟨h1.1, ?_⟩
      rw [hG r' c' ?_]
      · exact h1.2
      · rintro ⟨rfl, rfl⟩
        exact h (3, 8) (List.mem_append_right _ (List.mem_append_left _ (List.mem_singleton.mpr rfl)))
    · by_cases hne : a = 1 ∧ c = 1
      · obtain ⟨rfl, rfl⟩ := hne
        rw [xg_eq] at h
        unfold mnG at h
        by_cases hi : i < 8
        · rw [if_pos hi] at h
          cases h
          exact ⟨(1, 40), List.mem_append_right _ (List.mem_append_right _ (mnY_at hi))⟩
        · rw [if_neg hi] at h; cases h
      · rw [hG a c hne] at h
        obtain ⟨kd, hk⟩ := hz.2.1 a c i z h
        exact ⟨kd, List.mem_append_left _ hk⟩
    · rcases List.mem_append.mp h with h | h
      · exact hz.2.2 a k' h
      · rcases List.mem_append.mp h with h | h
        · rw [List.mem_singleton] at h
          cases h
          show (1 : Nat) < 1000000
          decide
        · have := (mnY_in h).1
          omega
  have e5 : (Value.ref q :: st.map (xt ρ)) = (xR 1 1 :: st).map (xt (mnP ρ q r)) := by
    rw [List.map_cons, xst_vl hag hvs.2]
    show _ = Value.ref (mnP ρ q r 1 1) :: _
    unfold mnP
    rw [if_pos ⟨rfl, rfl⟩]
  show W p l e R s m args below meth c0 H1 locs (cells + 1 + 8) (slots + 8 + 8 * 40) Qm (F0 m (pc + 4) ls (.ref q :: st.map (xt ρ)))
  rw [e5]
  exact k p l e R s m args below meth c0 D I A ρe Ye _ H1 locs _ _ ls Qm C F ⟨hP, hD, hS, hz2⟩ (xAg_trans Ag hag) ⟨by rw [xL_vl hag loc 0 hvs.1]; exact hl.1, hl.2⟩ hs3 hE
end XR
