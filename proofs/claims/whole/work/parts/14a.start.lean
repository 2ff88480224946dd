/-! FROM THE LAW'S ENTRY -/
theorem Rl_first {bd : Nat} {Y : xY} {G : xG} {N : xM} (hS : xSt Y G) (h0 : ∀ q c k, q ≠ 1 → q ≠ 40 → N q c k = 0) (h1 : ∀ j, j < 8 → N 1 3 j = -1) (h40 : ∀ c k, c ≠ 2 → c ≠ 18 → N 40 c k = 0) (h2 : ∀ j, j < 8 → N 40 2 j = -1) : Rl bd Y G N (N 40) := by
  have z : ∀ c k, c ≠ 2 → c ≠ 18 → N 40 c k = nI 0 := h40
  refine ⟨hS, ⟨fun r hr => Or.inl (h2 r hr), fun r hr => (h1 r hr).trans (h2 r hr).symm, fun r hr h => absurd (h1 r hr) h, fun r k j hr he hk hj => ?_⟩, ⟨0, by omega, h0 2 0 1 (by decide) (by decide), h40 0 5 (by decide) (by decide), fun j hj => absurd hj (by omega)⟩, ⟨?_, ?_⟩, ⟨0, by omega, h0 32 0 1 (by decide) (by decide), h40 0 20 (by decide) (by decide), fun j hj => absurd hj (by omega)⟩, fun k hk => Or.inl ⟨h40 17 k (by decide) (by decide), h0 (33 + k) 0 3 (by omega) (by omega)⟩, 0, 0, Or.inl ⟨rfl, rfl, ?_, h0 3 0 2 (by decide) (by decide), h0 3 0 3 (by decide) (by decide), z 0 8 (by decide) (by decide), z 0 9 (by decide) (by decide), h40 0 11 (by decide) (by decide)⟩, 0, 0, by omega, by omega, h0 5 0 1 (by decide) (by decide), h0 5 0 2 (by decide) (by decide), z 0 14 (by decide) (by decide), fun i hi => absurd hi (by omega)⟩
  · rw [h1 r hr] at he
    have h3 := nI_pos (n := k) (by omega)
    rw [← he] at h3
    exact absurd (by decide) h3
  · rw [h0 0 0 8 (by decide) (by decide), h40 0 6 (by decide) (by decide)]
  · rw [h0 0 0 9 (by decide) (by decide), h40 0 3 (by decide) (by decide)]
  · rw [h0 3 0 1 (by decide) (by decide), h40 13 0 (by decide) (by decide)]
theorem law_V {L : Nat} {xs : Nat → Int32} (hL : L ≤ 3072) : V RL false cL_law 4 (some .boolean) (some (L, xs)) 17 (363, 10732) 0 [some (xR 1000000 0), none, none, none] [] [] (fun _ _ _ => none) (fun _ _ _ => 0) (fun r _ _ _ => r = some (xI 1)) := by
  have v0 : ∀ Y : xY, xVl Y (xR 1000000 0) := fun Y => Or.inr (by decide)
  refine V.bud (b := (344 + 18 + 1, 7721 + 3001 + 10)) ?_ ⟨by decide, by decide⟩
  refine V_mk (b1 := (344, 7721)) (b := (18, 3001)) (r := 0) dL_law_0 dL_law_3 dL_law_4 ncL_7 (Or.inl wlL_9) mdX6_init miX6_init (fun ρ => by simp [xt, Value.category]) (by decide) (fun k hk => absurd hk List.not_mem_nil) (xVs_nil (locC (v0 _) (locN (locN (locN loc0))))) ?_
  refine kX6_init (List.mem_append_right _ (List.mem_singleton.mpr rfl)) (fun q c k hk => ?_) (fun _ _ _ => rfl) (fun Y1 G1 g1 s6 => ?_)
  · have := List.mem_singleton.mp hk
    cases this
    exact ⟨rfl, rfl⟩
  refine V_ast1 dL_law_7 rfl ?_
  have f40 : ∀ c k, ((40, c), k) ∉ Y1 := fun c => g1.fr (by omega) (fun k hk => by
    have := List.mem_singleton.mp hk
    cases this)
  have y0 : ((0, 0), (0, 6)) ∈ Y1 := s6.1.1 0 (0, 6) rfl
  have hN1 : ∀ q c k, q ≠ 1 → xp (fun _ _ _ => (0 : Int32)) 1 3 (xFill (fun _ => 0) (-1) 8) q c k = 0 := fun q c k hq => by rw [xp_no _ _ (fun w => hq w.1)]
  have hN3 : ∀ j, j < 8 → xp (fun _ _ _ => (0 : Int32)) 1 3 (xFill (fun _ => 0) (-1) 8) 1 3 j = -1 := fun j hj => by
    rw [xp_eq]
    unfold xFill
    rw [if_pos hj]
  generalize xp (fun _ _ _ => (0 : Int32)) 1 3 (xFill (fun _ => 0) (-1) 8) = M at *
  refine V_mk (b1 := (17, 2969)) (b := (0, 0)) (r := 40) dL_law_8 dL_law_11 dL_law_12 ncL_10 (Or.inl wlL_12) mdX7_init miX7_init (fun ρ => by simp [xt, Value.category]) (by decide) (f40 0) (xVs_nil (locC (v0 _) (locC (xVl_r y0) (locN (locN loc0))))) ?_
  have o2 := Gr.one (Y := Y1) (G := G1) 40 0 (0, 7)
  refine kX7_init (List.mem_append_right _ (List.mem_singleton.mpr rfl)) (fun c hc => fr1 (f40 c) hc) (fun Y2 G2 N2 g2 m2 n1 n2 n3 => ?_)
  have g3 := o2.tr g2
  obtain ⟨a0, a1, a2, a5, a30, a32, atr, arr, aac, aim⟩ := s6
  have hS : xSt Y2 G2 := ⟨a0.gr g3 (by omega), a1.gr g3 (by omega), a2.gr g3 (by omega), a5.gr g3 (by omega), a30.gr g3 (by omega), a32.gr g3 (by omega), fun r hr => (atr r hr).gr g3 (by
    unfold isTr at hr
    simp only [Bool.or_eq_true, beq_iff_eq, Bool.and_eq_true, decide_eq_true_eq] at hr
    omega), m2, fun i hi => ⟨(congrFun (congrFun (g3.2.2 1 (by omega)) 1) i).trans (arr i hi).1, g3.1 _ (arr i hi).2⟩, fun i hi => (congrFun (congrFun (g3.2.2 5 (by omega)) 1) i).trans (aac i hi), fun i hi => (congrFun (congrFun (g3.2.2 0 (by omega)) 8) i).trans (aim i hi)⟩
  refine V_ast2 dL_law_15 rfl ?_
  refine V_iconst (v := nI 0) dL_law_16 (by decide) ?_
  refine V_ist3 dL_law_17 rfl ?_
  refine law_loop hL (fun _ _ => rfl) (L + 6) 0 G2 N2 (by omega) (by omega) (Rl_first hS (fun q c k h1 h40 => ?_) (fun j hj => ?_) (fun c k h2 h18 => ?_) n3)
  · rw [n1 q h40]; exact hN1 q c k h1
  · rw [n1 1 (by decide)]; exact hN3 j hj
  · rw [n2 c h2 h18]; exact hN1 40 c k (by decide)
