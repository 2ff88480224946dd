theorem fr1 {Y : xY} {r c : Nat} {kd : Nat × Nat} (h : ∀ k, ((r, c), k) ∉ Y) (hc : c ≠ 0) : ∀ k, ((r, c), k) ∉ Y ++ [((r, 0), kd)] := by
  intro k hk
  rcases List.mem_append.mp hk with q | q
  · exact h k q
  · have := List.mem_singleton.mp q
    cases this
    exact hc rfl
theorem fr2 {Y : xY} {r q c : Nat} {kd : Nat × Nat} (h : ∀ k, ((q, c), k) ∉ Y) (hq : q ≠ r) : ∀ k, ((q, c), k) ∉ Y ++ [((r, 0), kd)] := by
  intro k hk
  rcases List.mem_append.mp hk with w | w
  · exact h k w
  · have := List.mem_singleton.mp w
    cases this
    exact hq rfl
def xS6 (Y : xY) (G : xG) : Prop := xReg Y G 0 xK0 xJ0 ∧ xReg Y G 1 xK1 xJ1 ∧ xReg Y G 2 xK2 xJ2 ∧ xReg Y G 5 xK5 xJ5 ∧ xReg Y G 30 xK30 xJ30 ∧ xReg Y G 32 xK32 xJ32 ∧ (∀ r, isTr r = true → xTr Y G r) ∧ (∀ i, i < 8 → G 1 1 i = some (1, 10 + i) ∧ ((1, 10 + i), (1, 40)) ∈ Y) ∧ (∀ i, i < 24 → G 5 1 i = some (6 + i, 0)) ∧ ∀ i, i < 2 → G 0 8 i = some (33 + i, 0)
section KI
variable {d : Nat} {Y : xY} {G : xG} {N : xM} {Q : Option xAV → xY → xG → xM → Prop}
set_option maxHeartbeats 2000000 in
theorem kX6_init (hY : ((0, 0), (0, 6)) ∈ Y) (hF : ∀ q c k, ((q, c), k) ∈ Y → q = 0 ∧ c = 0) (hN : ∀ q c k, N q c k = 0) (hQ : ∀ Y2 G2, Gr (fun q => q ≤ 34) Y G Y2 G2 → xS6 Y2 G2 → Q none Y2 G2 (xp N 1 3 (xFill (N 1 3) (-1) 8))) : V RX6 true cX6_init 1 none none (d + 4) (344, 7721) 0 [some (xR 0 0)] [] Y G N Q := by
  refine V_ald0 dX6_init_0 ?_
  refine V_oinit dX6_init_1 wlX6_1 (by decide) ?_
  have gA : Gr (fun q => q ≤ 0) Y G Y G := ⟨fun q h => h, fun q h => Or.inl h, fun _ _ => rfl⟩
  have hFr : ∀ q c, 1 ≤ q → ∀ k, ((q, c), k) ∉ Y := fun q c hq k hk => absurd (hF q c k hk).1 (by omega)
  have y0 : ((0, 0), (0, 6)) ∈ Y := hY
  have g08 : ∀ k, ((0, 8), k) ∉ Y := fun k hk => absurd (hF 0 8 k hk).2 (by decide)
  refine V_ald0 dX6_init_4 ?_
  refine V_mk (b1 := (11, 344)) (b := (332, 7374)) (r := 1) dX6_init_5 dX6_init_8 dX6_init_9 ncX6_7 (Or.inl wlX6_9) mdX2_init miX2_init (fun ρ => by simp [xt, Value.category]) (by decide) (gA.fr (by omega) (hFr 1 0 (by decide))) (xVs_cons y0 (xVs_nil (locC (xVl_r y0) loc0))) ?_
  refine kX2_init (List.mem_append_right _ (List.mem_singleton.mpr rfl)) (fun c hc => fr1 (gA.fr (by omega) (hFr 1 c (by decide))) hc) (fun Y1 G1 s1 f1 rr => ?_)
  have hN1 : ∀ q c k, q ≠ 1 → xp N 1 3 (xFill (N 1 3) (-1) 8) q c k = 0 := fun q c k hq => by rw [xp_no _ _ (fun w => hq w.1)]; exact hN q c k
  generalize hNN : xp N 1 3 (xFill (N 1 3) (-1) 8) = M at hN1 ⊢
  have s2 := (Gr.one (Y := Y) (G := G) 1 0 (0, 2)).tr s1
  replace g08 := s2.fr (by omega) g08
  replace y0 := s2.1 _ y0
  replace gA : Gr (fun q => q ≤ 1) Y G _ _ := (gA.tr s2).le (fun q hq => by omega)
  refine V_putRF dX6_init_12 fwX6_10 y0 rfl (fun a ha => ⟨(0, 2), by cases ha; exact f1.1 0 (0, 2) rfl⟩) ?_
  have p1 := Gr.pt (Y := Y1) (G := G1) 0 0 (va_up (G1 0 0) 0 (some (1, 0)))
  replace y0 := p1.1 _ y0
  replace f1 := f1.gr p1 (by omega)
  replace rr := fun (i : Nat) (hi : i < 8) => And.intro ((congrFun (congrFun (p1.2.2 1 (by omega)) 1) i).trans (rr i hi).1) (p1.1 _ (rr i hi).2)
  have z0 : (xg G1 0 0 (va_up (G1 0 0) 0 (some (1, 0)))) 0 0 0 = some (1, 0) := (by rw [xg_eq, va_up_eq])
  replace gA : Gr (fun q => q ≤ 1) Y G _ _ := (gA.tr p1).le (fun q hq => by omega)
  generalize (xg G1 0 0 (va_up (G1 0 0) 0 (some (1, 0)))) = H1 at *
  refine V_ald0 dX6_init_15 ?_
  refine V_mk (b1 := (1, 110)) (b := (330, 7259)) (r := 2) dX6_init_16 dX6_init_19 dX6_init_20 ncX6_16 (Or.inr ⟨_, wnX6_18⟩) mdX4_init miX4_init (fun ρ => by simp [xt, Value.category]) (by decide) (gA.fr (by omega) (hFr 2 0 (by decide))) (xVs_cons y0 (xVs_nil (locC (xVl_r y0) loc0))) ?_
  refine kX4_init (List.mem_append_right _ (List.mem_singleton.mpr rfl)) (fun c hc => fr1 (gA.fr (by omega) (hFr 2 c (by decide))) hc) (fun c k => hN1 2 c k (by decide)) (fun Y2 G2 s1 f2 => ?_)
  have s2 := (Gr.one (Y := Y1) (G := H1) 2 0 (0, 4)).tr s1
  replace g08 := s2.fr (by omega) g08
  replace y0 := s2.1 _ y0
  replace f1 := f1.gr s2 (by omega)
  replace rr := fun (i : Nat) (hi : i < 8) => And.intro ((congrFun (congrFun (s2.2.2 1 (by omega)) 1) i).trans (rr i hi).1) (s2.1 _ (rr i hi).2)
  replace z0 := (congrFun (congrFun (s2.2.2 0 (by omega)) 0) 0).trans z0
  replace gA : Gr (fun q => q ≤ 2) Y G _ _ := (gA.tr s2).le (fun q hq => by omega)
  refine V_putRF dX6_init_23 fwX6_19 y0 rfl (fun a ha => ⟨(0, 4), by cases ha; exact f2.1 0 (0, 4) rfl⟩) ?_
  have p1 := Gr.pt (Y := Y2) (G := G2) 0 0 (va_up (G2 0 0) 1 (some (2, 0)))
  replace z0 : (xg G2 0 0 (va_up (G2 0 0) 1 (some (2, 0)))) 0 0 0 = some (1, 0) := (by rw [xg_eq, va_up_no _ _ (by decide)]; exact z0)
  replace y0 := p1.1 _ y0
  replace f1 := f1.gr p1 (by omega)
  replace rr := fun (i : Nat) (hi : i < 8) => And.intro ((congrFun (congrFun (p1.2.2 1 (by omega)) 1) i).trans (rr i hi).1) (p1.1 _ (rr i hi).2)
  replace f2 := f2.gr p1 (by omega)
  have z1 : (xg G2 0 0 (va_up (G2 0 0) 1 (some (2, 0)))) 0 0 1 = some (2, 0) := (by rw [xg_eq, va_up_eq])
  replace gA : Gr (fun q => q ≤ 2) Y G _ _ := (gA.tr p1).le (fun q hq => by omega)
  generalize (xg G2 0 0 (va_up (G2 0 0) 1 (some (2, 0)))) = H2 at *
  refine V_ald0 dX6_init_26 ?_
  refine V_mk (b1 := (10, 74)) (b := (319, 7170)) (r := 3) dX6_init_27 dX6_init_30 dX6_init_31 ncX6_23 (Or.inr ⟨_, wnX6_25⟩) mdX5_init miX5_init (fun ρ => by simp [xt, Value.category]) (by decide) (gA.fr (by omega) (hFr 3 0 (by decide))) (xVs_cons y0 (xVs_nil (locC (xVl_r y0) loc0))) ?_
  refine kX5_init (by decide) (List.mem_append_right _ (List.mem_singleton.mpr rfl)) (fun c hc => fr1 (gA.fr (by omega) (hFr 3 c (by decide))) hc) (fun c k => hN1 3 c k (by decide)) (fun Y3 G3 s1 t3 => ?_)
  have s2 := (Gr.one (Y := Y2) (G := H2) 3 0 (0, 5)).tr s1
  replace g08 := s2.fr (by omega) g08
  replace y0 := s2.1 _ y0
  replace f1 := f1.gr s2 (by omega)
  replace rr := fun (i : Nat) (hi : i < 8) => And.intro ((congrFun (congrFun (s2.2.2 1 (by omega)) 1) i).trans (rr i hi).1) (s2.1 _ (rr i hi).2)
  replace z0 := (congrFun (congrFun (s2.2.2 0 (by omega)) 0) 0).trans z0
  replace f2 := f2.gr s2 (by omega)
  replace z1 := (congrFun (congrFun (s2.2.2 0 (by omega)) 0) 1).trans z1
  replace gA : Gr (fun q => q ≤ 3) Y G _ _ := (gA.tr s2).le (fun q hq => by omega)
  refine V_putRF dX6_init_34 fwX6_26 y0 rfl (fun a ha => ⟨(0, 5), by cases ha; exact t3.1 0 (0, 5) rfl⟩) ?_
  have p1 := Gr.pt (Y := Y3) (G := G3) 0 0 (va_up (G3 0 0) 2 (some (3, 0)))
  replace z0 : (xg G3 0 0 (va_up (G3 0 0) 2 (some (3, 0)))) 0 0 0 = some (1, 0) := (by rw [xg_eq, va_up_no _ _ (by decide)]; exact z0)
  replace z1 : (xg G3 0 0 (va_up (G3 0 0) 2 (some (3, 0)))) 0 0 1 = some (2, 0) := (by rw [xg_eq, va_up_no _ _ (by decide)]; exact z1)
  replace y0 := p1.1 _ y0
  replace f1 := f1.gr p1 (by omega)
  replace rr := fun (i : Nat) (hi : i < 8) => And.intro ((congrFun (congrFun (p1.2.2 1 (by omega)) 1) i).trans (rr i hi).1) (p1.1 _ (rr i hi).2)
  replace f2 := f2.gr p1 (by omega)
  replace t3 := t3.gr p1 (by omega)
  have z2 : (xg G3 0 0 (va_up (G3 0 0) 2 (some (3, 0)))) 0 0 2 = some (3, 0) := (by rw [xg_eq, va_up_eq])
  replace gA : Gr (fun q => q ≤ 3) Y G _ _ := (gA.tr p1).le (fun q hq => by omega)
  generalize (xg G3 0 0 (va_up (G3 0 0) 2 (some (3, 0)))) = H3 at *
  refine V_ald0 dX6_init_37 ?_
  refine V_mk (b1 := (10, 74)) (b := (308, 7081)) (r := 4) dX6_init_38 dX6_init_41 dX6_init_42 ncX6_23 (Or.inr ⟨_, wnX6_25⟩) mdX5_init miX5_init (fun ρ => by simp [xt, Value.category]) (by decide) (gA.fr (by omega) (hFr 4 0 (by decide))) (xVs_cons y0 (xVs_nil (locC (xVl_r y0) loc0))) ?_
  refine kX5_init (by decide) (List.mem_append_right _ (List.mem_singleton.mpr rfl)) (fun c hc => fr1 (gA.fr (by omega) (hFr 4 c (by decide))) hc) (fun c k => hN1 4 c k (by decide)) (fun Y4 G4 s1 t4 => ?_)
  have s2 := (Gr.one (Y := Y3) (G := H3) 4 0 (0, 5)).tr s1
  replace g08 := s2.fr (by omega) g08
  replace y0 := s2.1 _ y0
  replace f1 := f1.gr s2 (by omega)
  replace rr := fun (i : Nat) (hi : i < 8) => And.intro ((congrFun (congrFun (s2.2.2 1 (by omega)) 1) i).trans (rr i hi).1) (s2.1 _ (rr i hi).2)
  replace z0 := (congrFun (congrFun (s2.2.2 0 (by omega)) 0) 0).trans z0
  replace f2 := f2.gr s2 (by omega)
  replace z1 := (congrFun (congrFun (s2.2.2 0 (by omega)) 0) 1).trans z1
  replace t3 := t3.gr s2 (by omega)
  replace z2 := (congrFun (congrFun (s2.2.2 0 (by omega)) 0) 2).trans z2
  replace gA : Gr (fun q => q ≤ 4) Y G _ _ := (gA.tr s2).le (fun q hq => by omega)
  refine V_putRF dX6_init_45 fwX6_30 y0 rfl (fun a ha => ⟨(0, 5), by cases ha; exact t4.1 0 (0, 5) rfl⟩) ?_
  have p1 := Gr.pt (Y := Y4) (G := G4) 0 0 (va_up (G4 0 0) 3 (some (4, 0)))
  replace z0 : (xg G4 0 0 (va_up (G4 0 0) 3 (some (4, 0)))) 0 0 0 = some (1, 0) := (by rw [xg_eq, va_up_no _ _ (by decide)]; exact z0)
  replace z1 : (xg G4 0 0 (va_up (G4 0 0) 3 (some (4, 0)))) 0 0 1 = some (2, 0) := (by rw [xg_eq, va_up_no _ _ (by decide)]; exact z1)
  replace z2 : (xg G4 0 0 (va_up (G4 0 0) 3 (some (4, 0)))) 0 0 2 = some (3, 0) := (by rw [xg_eq, va_up_no _ _ (by decide)]; exact z2)
  replace y0 := p1.1 _ y0
  replace f1 := f1.gr p1 (by omega)
  replace rr := fun (i : Nat) (hi : i < 8) => And.intro ((congrFun (congrFun (p1.2.2 1 (by omega)) 1) i).trans (rr i hi).1) (p1.1 _ (rr i hi).2)
  replace f2 := f2.gr p1 (by omega)
  replace t3 := t3.gr p1 (by omega)
  replace t4 := t4.gr p1 (by omega)
  have z3 : (xg G4 0 0 (va_up (G4 0 0) 3 (some (4, 0)))) 0 0 3 = some (4, 0) := (by rw [xg_eq, va_up_eq])
  replace gA : Gr (fun q => q ≤ 4) Y G _ _ := (gA.tr p1).le (fun q hq => by omega)
  generalize (xg G4 0 0 (va_up (G4 0 0) 3 (some (4, 0)))) = H4 at *
  refine V_ald0 dX6_init_48 ?_
  refine V_mk (b1 := (265, 2160)) (b := (42, 4918)) (r := 5) dX6_init_49 dX6_init_52 dX6_init_53 ncX6_33 (Or.inl wlX6_35) mdX0_init miX0_init (fun ρ => by simp [xt, Value.category]) (by decide) (gA.fr (by omega) (hFr 5 0 (by decide))) (xVs_cons y0 (xVs_nil (locC (xVl_r y0) loc0))) ?_
  refine kX0_init (List.mem_append_right _ (List.mem_singleton.mpr rfl)) (fun c hc => fr1 (gA.fr (by omega) (hFr 5 c (by decide))) hc) (fun q h1 h2 c => fr2 (gA.fr (by omega) (hFr q c (by omega))) (by omega)) (fun q c k h1 h2 => hN1 q c k (by omega)) (fun Y5 G5 s1 f5 aa => ?_)
  have s2 := (Gr.one (Y := Y4) (G := H4) 5 0 (0, 0)).tr s1
  replace g08 := s2.fr (by omega) g08
  replace y0 := s2.1 _ y0
  replace f1 := f1.gr s2 (by omega)
  replace rr := fun (i : Nat) (hi : i < 8) => And.intro ((congrFun (congrFun (s2.2.2 1 (by omega)) 1) i).trans (rr i hi).1) (s2.1 _ (rr i hi).2)
  replace z0 := (congrFun (congrFun (s2.2.2 0 (by omega)) 0) 0).trans z0
  replace f2 := f2.gr s2 (by omega)
  replace z1 := (congrFun (congrFun (s2.2.2 0 (by omega)) 0) 1).trans z1
  replace t3 := t3.gr s2 (by omega)
  replace z2 := (congrFun (congrFun (s2.2.2 0 (by omega)) 0) 2).trans z2
  replace t4 := t4.gr s2 (by omega)
  replace z3 := (congrFun (congrFun (s2.2.2 0 (by omega)) 0) 3).trans z3
  replace gA : Gr (fun q => q ≤ 29) Y G _ _ := (gA.tr s2).le (fun q hq => by omega)
  refine V_putRF dX6_init_56 fwX6_36 y0 rfl (fun a ha => ⟨(0, 0), by cases ha; exact f5.1 0 (0, 0) rfl⟩) ?_
  have p1 := Gr.pt (Y := Y5) (G := G5) 0 0 (va_up (G5 0 0) 4 (some (5, 0)))
  replace z0 : (xg G5 0 0 (va_up (G5 0 0) 4 (some (5, 0)))) 0 0 0 = some (1, 0) := (by rw [xg_eq, va_up_no _ _ (by decide)]; exact z0)
  replace z1 : (xg G5 0 0 (va_up (G5 0 0) 4 (some (5, 0)))) 0 0 1 = some (2, 0) := (by rw [xg_eq, va_up_no _ _ (by decide)]; exact z1)
  replace z2 : (xg G5 0 0 (va_up (G5 0 0) 4 (some (5, 0)))) 0 0 2 = some (3, 0) := (by rw [xg_eq, va_up_no _ _ (by decide)]; exact z2)
  replace z3 : (xg G5 0 0 (va_up (G5 0 0) 4 (some (5, 0)))) 0 0 3 = some (4, 0) := (by rw [xg_eq, va_up_no _ _ (by decide)]; exact z3)
  replace y0 := p1.1 _ y0
  replace f1 := f1.gr p1 (by omega)
  replace rr := fun (i : Nat) (hi : i < 8) => And.intro ((congrFun (congrFun (p1.2.2 1 (by omega)) 1) i).trans (rr i hi).1) (p1.1 _ (rr i hi).2)
  replace f2 := f2.gr p1 (by omega)
  replace t3 := t3.gr p1 (by omega)
  replace t4 := t4.gr p1 (by omega)
  replace f5 := f5.gr p1 (by omega)
  replace aa := fun (i : Nat) (hi : i < 24) => And.intro ((aa i hi).1.gr p1 (by omega)) ((congrFun (congrFun (p1.2.2 5 (by omega)) 1) i).trans (aa i hi).2)
  have z4 : (xg G5 0 0 (va_up (G5 0 0) 4 (some (5, 0)))) 0 0 4 = some (5, 0) := (by rw [xg_eq, va_up_eq])
  replace gA : Gr (fun q => q ≤ 29) Y G _ _ := (gA.tr p1).le (fun q hq => by omega)
  generalize (xg G5 0 0 (va_up (G5 0 0) 4 (some (5, 0)))) = H5 at *
  refine V_ald0 dX6_init_59 ?_
  refine V_mk (b1 := (16, 4709)) (b := (25, 198)) (r := 30) dX6_init_60 dX6_init_63 dX6_init_64 ncX6_40 (Or.inr ⟨_, wnX6_42⟩) mdX3_init miX3_init (fun ρ => by simp [xt, Value.category]) (by decide) (gA.fr (by omega) (hFr 30 0 (by decide))) (xVs_cons y0 (xVs_nil (locC (xVl_r y0) loc0))) ?_
  refine kX3_init (List.mem_append_right _ (List.mem_singleton.mpr rfl)) (fun c hc => fr1 (gA.fr (by omega) (hFr 30 c (by decide))) hc) (fun c => fr2 (gA.fr (by omega) (hFr 31 c (by decide))) (by decide)) (fun c k => hN1 30 c k (by decide)) (fun c k => hN1 31 c k (by decide)) (fun Y6 G6 s1 f30 t31 => ?_)
  have s2 := (Gr.one (Y := Y5) (G := H5) 30 0 (0, 3)).tr s1
  replace g08 := s2.fr (by omega) g08
  replace y0 := s2.1 _ y0
  replace f1 := f1.gr s2 (by omega)
  replace rr := fun (i : Nat) (hi : i < 8) => And.intro ((congrFun (congrFun (s2.2.2 1 (by omega)) 1) i).trans (rr i hi).1) (s2.1 _ (rr i hi).2)
  replace z0 := (congrFun (congrFun (s2.2.2 0 (by omega)) 0) 0).trans z0
  replace f2 := f2.gr s2 (by omega)
  replace z1 := (congrFun (congrFun (s2.2.2 0 (by omega)) 0) 1).trans z1
  replace t3 := t3.gr s2 (by omega)
  replace z2 := (congrFun (congrFun (s2.2.2 0 (by omega)) 0) 2).trans z2
  replace t4 := t4.gr s2 (by omega)
  replace z3 := (congrFun (congrFun (s2.2.2 0 (by omega)) 0) 3).trans z3
  replace f5 := f5.gr s2 (by omega)
  replace aa := fun (i : Nat) (hi : i < 24) => And.intro ((aa i hi).1.gr s2 (by omega)) ((congrFun (congrFun (s2.2.2 5 (by omega)) 1) i).trans (aa i hi).2)
  replace z4 := (congrFun (congrFun (s2.2.2 0 (by omega)) 0) 4).trans z4
  replace gA : Gr (fun q => q ≤ 31) Y G _ _ := (gA.tr s2).le (fun q hq => by omega)
  refine V_putRF dX6_init_67 fwX6_43 y0 rfl (fun a ha => ⟨(0, 3), by cases ha; exact f30.1 0 (0, 3) rfl⟩) ?_
  have p1 := Gr.pt (Y := Y6) (G := G6) 0 0 (va_up (G6 0 0) 5 (some (30, 0)))
  replace z0 : (xg G6 0 0 (va_up (G6 0 0) 5 (some (30, 0)))) 0 0 0 = some (1, 0) := (by rw [xg_eq, va_up_no _ _ (by decide)]; exact z0)
  replace z1 : (xg G6 0 0 (va_up (G6 0 0) 5 (some (30, 0)))) 0 0 1 = some (2, 0) := (by rw [xg_eq, va_up_no _ _ (by decide)]; exact z1)
  replace z2 : (xg G6 0 0 (va_up (G6 0 0) 5 (some (30, 0)))) 0 0 2 = some (3, 0) := (by rw [xg_eq, va_up_no _ _ (by decide)]; exact z2)
  replace z3 : (xg G6 0 0 (va_up (G6 0 0) 5 (some (30, 0)))) 0 0 3 = some (4, 0) := (by rw [xg_eq, va_up_no _ _ (by decide)]; exact z3)
  replace z4 : (xg G6 0 0 (va_up (G6 0 0) 5 (some (30, 0)))) 0 0 4 = some (5, 0) := (by rw [xg_eq, va_up_no _ _ (by decide)]; exact z4)
  replace y0 := p1.1 _ y0
  replace f1 := f1.gr p1 (by omega)
  replace rr := fun (i : Nat) (hi : i < 8) => And.intro ((congrFun (congrFun (p1.2.2 1 (by omega)) 1) i).trans (rr i hi).1) (p1.1 _ (rr i hi).2)
  replace f2 := f2.gr p1 (by omega)
  replace t3 := t3.gr p1 (by omega)
  replace t4 := t4.gr p1 (by omega)
  replace f5 := f5.gr p1 (by omega)
  replace aa := fun (i : Nat) (hi : i < 24) => And.intro ((aa i hi).1.gr p1 (by omega)) ((congrFun (congrFun (p1.2.2 5 (by omega)) 1) i).trans (aa i hi).2)
  replace f30 := f30.gr p1 (by omega)
  replace t31 := t31.gr p1 (by omega)
  have z5 : (xg G6 0 0 (va_up (G6 0 0) 5 (some (30, 0)))) 0 0 5 = some (30, 0) := (by rw [xg_eq, va_up_eq])
  replace gA : Gr (fun q => q ≤ 31) Y G _ _ := (gA.tr p1).le (fun q hq => by omega)
  generalize (xg G6 0 0 (va_up (G6 0 0) 5 (some (30, 0)))) = H6 at *
  refine V_ald0 dX6_init_70 ?_
  refine V_mk (b1 := (1, 16)) (b := (23, 180)) (r := 32) dX6_init_71 dX6_init_74 dX6_init_75 ncX6_47 (Or.inr ⟨_, wnX6_49⟩) mdX1_init miX1_init (fun ρ => by simp [xt, Value.category]) (by decide) (gA.fr (by omega) (hFr 32 0 (by decide))) (xVs_cons y0 (xVs_nil (locC (xVl_r y0) loc0))) ?_
  refine kX1_init (List.mem_append_right _ (List.mem_singleton.mpr rfl)) (fun c hc => fr1 (gA.fr (by omega) (hFr 32 c (by decide))) hc) (fun c k => hN1 32 c k (by decide)) (fun Y7 G7 s1 f32 => ?_)
  have s2 := (Gr.one (Y := Y6) (G := H6) 32 0 (0, 1)).tr s1
  replace g08 := s2.fr (by omega) g08
  replace y0 := s2.1 _ y0
  replace f1 := f1.gr s2 (by omega)
  replace rr := fun (i : Nat) (hi : i < 8) => And.intro ((congrFun (congrFun (s2.2.2 1 (by omega)) 1) i).trans (rr i hi).1) (s2.1 _ (rr i hi).2)
  replace z0 := (congrFun (congrFun (s2.2.2 0 (by omega)) 0) 0).trans z0
  replace f2 := f2.gr s2 (by omega)
  replace z1 := (congrFun (congrFun (s2.2.2 0 (by omega)) 0) 1).trans z1
  replace t3 := t3.gr s2 (by omega)
  replace z2 := (congrFun (congrFun (s2.2.2 0 (by omega)) 0) 2).trans z2
  replace t4 := t4.gr s2 (by omega)
  replace z3 := (congrFun (congrFun (s2.2.2 0 (by omega)) 0) 3).trans z3
  replace f5 := f5.gr s2 (by omega)
  replace aa := fun (i : Nat) (hi : i < 24) => And.intro ((aa i hi).1.gr s2 (by omega)) ((congrFun (congrFun (s2.2.2 5 (by omega)) 1) i).trans (aa i hi).2)
  replace z4 := (congrFun (congrFun (s2.2.2 0 (by omega)) 0) 4).trans z4
  replace f30 := f30.gr s2 (by omega)
  replace t31 := t31.gr s2 (by omega)
  replace z5 := (congrFun (congrFun (s2.2.2 0 (by omega)) 0) 5).trans z5
  replace gA : Gr (fun q => q ≤ 32) Y G _ _ := (gA.tr s2).le (fun q hq => by omega)
  refine V_putRF dX6_init_78 fwX6_50 y0 rfl (fun a ha => ⟨(0, 1), by cases ha; exact f32.1 0 (0, 1) rfl⟩) ?_
  have p1 := Gr.pt (Y := Y7) (G := G7) 0 0 (va_up (G7 0 0) 6 (some (32, 0)))
  replace z0 : (xg G7 0 0 (va_up (G7 0 0) 6 (some (32, 0)))) 0 0 0 = some (1, 0) := (by rw [xg_eq, va_up_no _ _ (by decide)]; exact z0)
  replace z1 : (xg G7 0 0 (va_up (G7 0 0) 6 (some (32, 0)))) 0 0 1 = some (2, 0) := (by rw [xg_eq, va_up_no _ _ (by decide)]; exact z1)
  replace z2 : (xg G7 0 0 (va_up (G7 0 0) 6 (some (32, 0)))) 0 0 2 = some (3, 0) := (by rw [xg_eq, va_up_no _ _ (by decide)]; exact z2)
  replace z3 : (xg G7 0 0 (va_up (G7 0 0) 6 (some (32, 0)))) 0 0 3 = some (4, 0) := (by rw [xg_eq, va_up_no _ _ (by decide)]; exact z3)
  replace z4 : (xg G7 0 0 (va_up (G7 0 0) 6 (some (32, 0)))) 0 0 4 = some (5, 0) := (by rw [xg_eq, va_up_no _ _ (by decide)]; exact z4)
  replace z5 : (xg G7 0 0 (va_up (G7 0 0) 6 (some (32, 0)))) 0 0 5 = some (30, 0) := (by rw [xg_eq, va_up_no _ _ (by decide)]; exact z5)
  replace y0 := p1.1 _ y0
  replace f1 := f1.gr p1 (by omega)
  replace rr := fun (i : Nat) (hi : i < 8) => And.intro ((congrFun (congrFun (p1.2.2 1 (by omega)) 1) i).trans (rr i hi).1) (p1.1 _ (rr i hi).2)
  replace f2 := f2.gr p1 (by omega)
  replace t3 := t3.gr p1 (by omega)
  replace t4 := t4.gr p1 (by omega)
  replace f5 := f5.gr p1 (by omega)
  replace aa := fun (i : Nat) (hi : i < 24) => And.intro ((aa i hi).1.gr p1 (by omega)) ((congrFun (congrFun (p1.2.2 5 (by omega)) 1) i).trans (aa i hi).2)
  replace f30 := f30.gr p1 (by omega)
  replace t31 := t31.gr p1 (by omega)
  replace f32 := f32.gr p1 (by omega)
  have z6 : (xg G7 0 0 (va_up (G7 0 0) 6 (some (32, 0)))) 0 0 6 = some (32, 0) := (by rw [xg_eq, va_up_eq])
  replace gA : Gr (fun q => q ≤ 32) Y G _ _ := (gA.tr p1).le (fun q hq => by omega)
  generalize (xg G7 0 0 (va_up (G7 0 0) 6 (some (32, 0)))) = H7 at *
  refine V_ald0 dX6_init_81 ?_
  refine V_iconst (v := nI 2) dX6_init_82 (by decide) ?_
  refine V_newT (b := (22, 178)) (r := 0) (c := 8) (nn := 2) dX6_init_83 wcX6_23 (by decide) (nI_clamp (by decide)) (by decide) g08 (by decide) (xVs_cons y0 (xVs_nil (locC (xVl_r y0) loc0))) ?_
  have s3 := Gr.one (Y := Y7) (G := H7) 0 8 (2, 2)
  replace y0 := s3.1 _ y0
  replace f1 := f1.gr s3 (by omega)
  replace rr := fun (i : Nat) (hi : i < 8) => And.intro ((congrFun (congrFun (s3.2.2 1 (by omega)) 1) i).trans (rr i hi).1) (s3.1 _ (rr i hi).2)
  replace f2 := f2.gr s3 (by omega)
  replace t3 := t3.gr s3 (by omega)
  replace t4 := t4.gr s3 (by omega)
  replace f5 := f5.gr s3 (by omega)
  replace aa := fun (i : Nat) (hi : i < 24) => And.intro ((aa i hi).1.gr s3 (by omega)) ((congrFun (congrFun (s3.2.2 5 (by omega)) 1) i).trans (aa i hi).2)
  replace f30 := f30.gr s3 (by omega)
  replace t31 := t31.gr s3 (by omega)
  replace f32 := f32.gr s3 (by omega)
  replace gA : Gr (fun q => q ≤ 32) Y G _ _ := (gA.tr s3).le (fun q hq => by omega)
  have y8 : ((0, 8), (2, 2)) ∈ Y7 ++ [((0, 8), (2, 2))] := List.mem_append_right _ (List.mem_singleton.mpr rfl)
  generalize Y7 ++ [((0, 8), (2, 2))] = YY at *
  refine V_dupR dX6_init_86 ?_
  refine V_iconst (v := nI 0) dX6_init_87 (by decide) ?_
  refine V_mk (b1 := (10, 74)) (b := (11, 89)) (r := 33) dX6_init_88 dX6_init_91 dX6_init_92 ncX6_23 (Or.inr ⟨_, wnX6_25⟩) mdX5_init miX5_init (fun ρ => by simp [xt, Value.category]) (by decide) (gA.fr (by omega) (hFr 33 0 (by decide))) (xVs_int (xVs_cons y8 (xVs_cons y8 (xVs_cons y0 (xVs_nil (locC (xVl_r y0) loc0)))))) ?_
  refine kX5_init (by decide) (List.mem_append_right _ (List.mem_singleton.mpr rfl)) (fun c hc => fr1 (gA.fr (by omega) (hFr 33 c (by decide))) hc) (fun c k => hN1 33 c k (by decide)) (fun Y8 G8 s1 t33 => ?_)
  have s2 := (Gr.one (Y := YY) (G := H7) 33 0 (0, 5)).tr s1
  replace y0 := s2.1 _ y0
  replace f1 := f1.gr s2 (by omega)
  replace rr := fun (i : Nat) (hi : i < 8) => And.intro ((congrFun (congrFun (s2.2.2 1 (by omega)) 1) i).trans (rr i hi).1) (s2.1 _ (rr i hi).2)
  replace z0 := (congrFun (congrFun (s2.2.2 0 (by omega)) 0) 0).trans z0
  replace f2 := f2.gr s2 (by omega)
  replace z1 := (congrFun (congrFun (s2.2.2 0 (by omega)) 0) 1).trans z1
  replace t3 := t3.gr s2 (by omega)
  replace z2 := (congrFun (congrFun (s2.2.2 0 (by omega)) 0) 2).trans z2
  replace t4 := t4.gr s2 (by omega)
  replace z3 := (congrFun (congrFun (s2.2.2 0 (by omega)) 0) 3).trans z3
  replace f5 := f5.gr s2 (by omega)
  replace aa := fun (i : Nat) (hi : i < 24) => And.intro ((aa i hi).1.gr s2 (by omega)) ((congrFun (congrFun (s2.2.2 5 (by omega)) 1) i).trans (aa i hi).2)
  replace z4 := (congrFun (congrFun (s2.2.2 0 (by omega)) 0) 4).trans z4
  replace f30 := f30.gr s2 (by omega)
  replace t31 := t31.gr s2 (by omega)
  replace z5 := (congrFun (congrFun (s2.2.2 0 (by omega)) 0) 5).trans z5
  replace f32 := f32.gr s2 (by omega)
  replace z6 := (congrFun (congrFun (s2.2.2 0 (by omega)) 0) 6).trans z6
  replace y8 := s2.1 _ y8
  replace gA : Gr (fun q => q ≤ 33) Y G _ _ := (gA.tr s2).le (fun q hq => by omega)
  refine V_aastore (a := 33) (a' := 0) dX6_init_95 y8 (by unfold vp_in; decide) (t33.1 0 (0, 5) rfl) ?_
  rw [nI_clamp (by decide)]
  have p1 := Gr.pt (Y := Y8) (G := G8) 0 8 (va_up (G8 0 8) 0 (some (33, 0)))
  replace z0 : (xg G8 0 8 (va_up (G8 0 8) 0 (some (33, 0)))) 0 0 0 = some (1, 0) := (by rw [xg_no _ _ (by decide)]; exact z0)
  replace z1 : (xg G8 0 8 (va_up (G8 0 8) 0 (some (33, 0)))) 0 0 1 = some (2, 0) := (by rw [xg_no _ _ (by decide)]; exact z1)
  replace z2 : (xg G8 0 8 (va_up (G8 0 8) 0 (some (33, 0)))) 0 0 2 = some (3, 0) := (by rw [xg_no _ _ (by decide)]; exact z2)
  replace z3 : (xg G8 0 8 (va_up (G8 0 8) 0 (some (33, 0)))) 0 0 3 = some (4, 0) := (by rw [xg_no _ _ (by decide)]; exact z3)
  replace z4 : (xg G8 0 8 (va_up (G8 0 8) 0 (some (33, 0)))) 0 0 4 = some (5, 0) := (by rw [xg_no _ _ (by decide)]; exact z4)
  replace z5 : (xg G8 0 8 (va_up (G8 0 8) 0 (some (33, 0)))) 0 0 5 = some (30, 0) := (by rw [xg_no _ _ (by decide)]; exact z5)
  replace z6 : (xg G8 0 8 (va_up (G8 0 8) 0 (some (33, 0)))) 0 0 6 = some (32, 0) := (by rw [xg_no _ _ (by decide)]; exact z6)
  replace y0 := p1.1 _ y0
  replace f1 := f1.gr p1 (by omega)
  replace rr := fun (i : Nat) (hi : i < 8) => And.intro ((congrFun (congrFun (p1.2.2 1 (by omega)) 1) i).trans (rr i hi).1) (p1.1 _ (rr i hi).2)
  replace f2 := f2.gr p1 (by omega)
  replace t3 := t3.gr p1 (by omega)
  replace t4 := t4.gr p1 (by omega)
  replace f5 := f5.gr p1 (by omega)
  replace aa := fun (i : Nat) (hi : i < 24) => And.intro ((aa i hi).1.gr p1 (by omega)) ((congrFun (congrFun (p1.2.2 5 (by omega)) 1) i).trans (aa i hi).2)
  replace f30 := f30.gr p1 (by omega)
  replace t31 := t31.gr p1 (by omega)
  replace f32 := f32.gr p1 (by omega)
  replace y8 := p1.1 _ y8
  replace t33 := t33.gr p1 (by omega)
  have j0 : (xg G8 0 8 (va_up (G8 0 8) 0 (some (33, 0)))) 0 8 0 = some (33, 0) := (by rw [xg_eq, va_up_eq])
  replace gA : Gr (fun q => q ≤ 33) Y G _ _ := (gA.tr p1).le (fun q hq => by omega)
  generalize (xg G8 0 8 (va_up (G8 0 8) 0 (some (33, 0)))) = H8 at *
  refine V_dupR dX6_init_96 ?_
  refine V_iconst (v := nI 1) dX6_init_97 (by decide) ?_
  refine V_mk (b1 := (10, 74)) (b := (0, 0)) (r := 34) dX6_init_98 dX6_init_101 dX6_init_102 ncX6_23 (Or.inr ⟨_, wnX6_25⟩) mdX5_init miX5_init (fun ρ => by simp [xt, Value.category]) (by decide) (gA.fr (by omega) (hFr 34 0 (by decide))) (xVs_int (xVs_cons y8 (xVs_cons y8 (xVs_cons y0 (xVs_nil (locC (xVl_r y0) loc0)))))) ?_
  refine kX5_init (by decide) (List.mem_append_right _ (List.mem_singleton.mpr rfl)) (fun c hc => fr1 (gA.fr (by omega) (hFr 34 c (by decide))) hc) (fun c k => hN1 34 c k (by decide)) (fun Y9 G9 s1 t34 => ?_)
  have s2 := (Gr.one (Y := Y8) (G := H8) 34 0 (0, 5)).tr s1
  replace y0 := s2.1 _ y0
  replace f1 := f1.gr s2 (by omega)
  replace rr := fun (i : Nat) (hi : i < 8) => And.intro ((congrFun (congrFun (s2.2.2 1 (by omega)) 1) i).trans (rr i hi).1) (s2.1 _ (rr i hi).2)
  replace z0 := (congrFun (congrFun (s2.2.2 0 (by omega)) 0) 0).trans z0
  replace f2 := f2.gr s2 (by omega)
  replace z1 := (congrFun (congrFun (s2.2.2 0 (by omega)) 0) 1).trans z1
  replace t3 := t3.gr s2 (by omega)
  replace z2 := (congrFun (congrFun (s2.2.2 0 (by omega)) 0) 2).trans z2
  replace t4 := t4.gr s2 (by omega)
  replace z3 := (congrFun (congrFun (s2.2.2 0 (by omega)) 0) 3).trans z3
  replace f5 := f5.gr s2 (by omega)
  replace aa := fun (i : Nat) (hi : i < 24) => And.intro ((aa i hi).1.gr s2 (by omega)) ((congrFun (congrFun (s2.2.2 5 (by omega)) 1) i).trans (aa i hi).2)
  replace z4 := (congrFun (congrFun (s2.2.2 0 (by omega)) 0) 4).trans z4
  replace f30 := f30.gr s2 (by omega)
  replace t31 := t31.gr s2 (by omega)
  replace z5 := (congrFun (congrFun (s2.2.2 0 (by omega)) 0) 5).trans z5
  replace f32 := f32.gr s2 (by omega)
  replace z6 := (congrFun (congrFun (s2.2.2 0 (by omega)) 0) 6).trans z6
  replace y8 := s2.1 _ y8
  replace t33 := t33.gr s2 (by omega)
  replace j0 := (congrFun (congrFun (s2.2.2 0 (by omega)) 8) 0).trans j0
  replace gA : Gr (fun q => q ≤ 34) Y G _ _ := (gA.tr s2).le (fun q hq => by omega)
  refine V_aastore (a := 34) (a' := 0) dX6_init_105 y8 (by unfold vp_in; decide) (t34.1 0 (0, 5) rfl) ?_
  rw [nI_clamp (by decide)]
  have p1 := Gr.pt (Y := Y9) (G := G9) 0 8 (va_up (G9 0 8) 1 (some (34, 0)))
  replace z0 : (xg G9 0 8 (va_up (G9 0 8) 1 (some (34, 0)))) 0 0 0 = some (1, 0) := (by rw [xg_no _ _ (by decide)]; exact z0)
  replace z1 : (xg G9 0 8 (va_up (G9 0 8) 1 (some (34, 0)))) 0 0 1 = some (2, 0) := (by rw [xg_no _ _ (by decide)]; exact z1)
  replace z2 : (xg G9 0 8 (va_up (G9 0 8) 1 (some (34, 0)))) 0 0 2 = some (3, 0) := (by rw [xg_no _ _ (by decide)]; exact z2)
  replace z3 : (xg G9 0 8 (va_up (G9 0 8) 1 (some (34, 0)))) 0 0 3 = some (4, 0) := (by rw [xg_no _ _ (by decide)]; exact z3)
  replace z4 : (xg G9 0 8 (va_up (G9 0 8) 1 (some (34, 0)))) 0 0 4 = some (5, 0) := (by rw [xg_no _ _ (by decide)]; exact z4)
  replace z5 : (xg G9 0 8 (va_up (G9 0 8) 1 (some (34, 0)))) 0 0 5 = some (30, 0) := (by rw [xg_no _ _ (by decide)]; exact z5)
  replace z6 : (xg G9 0 8 (va_up (G9 0 8) 1 (some (34, 0)))) 0 0 6 = some (32, 0) := (by rw [xg_no _ _ (by decide)]; exact z6)
  replace j0 : (xg G9 0 8 (va_up (G9 0 8) 1 (some (34, 0)))) 0 8 0 = some (33, 0) := (by rw [xg_eq, va_up_no _ _ (by decide)]; exact j0)
  replace y0 := p1.1 _ y0
  replace f1 := f1.gr p1 (by omega)
  replace rr := fun (i : Nat) (hi : i < 8) => And.intro ((congrFun (congrFun (p1.2.2 1 (by omega)) 1) i).trans (rr i hi).1) (p1.1 _ (rr i hi).2)
  replace f2 := f2.gr p1 (by omega)
  replace t3 := t3.gr p1 (by omega)
  replace t4 := t4.gr p1 (by omega)
  replace f5 := f5.gr p1 (by omega)
  replace aa := fun (i : Nat) (hi : i < 24) => And.intro ((aa i hi).1.gr p1 (by omega)) ((congrFun (congrFun (p1.2.2 5 (by omega)) 1) i).trans (aa i hi).2)
  replace f30 := f30.gr p1 (by omega)
  replace t31 := t31.gr p1 (by omega)
  replace f32 := f32.gr p1 (by omega)
  replace y8 := p1.1 _ y8
  replace t33 := t33.gr p1 (by omega)
  replace t34 := t34.gr p1 (by omega)
  have j1 : (xg G9 0 8 (va_up (G9 0 8) 1 (some (34, 0)))) 0 8 1 = some (34, 0) := (by rw [xg_eq, va_up_eq])
  replace gA : Gr (fun q => q ≤ 34) Y G _ _ := (gA.tr p1).le (fun q hq => by omega)
  generalize (xg G9 0 8 (va_up (G9 0 8) 1 (some (34, 0)))) = H9 at *
  refine V_putRF dX6_init_106 fwX6_54 y0 rfl (fun a ha => ⟨(2, 2), by cases ha; exact y8⟩) ?_
  have p1 := Gr.pt (Y := Y9) (G := H9) 0 0 (va_up (H9 0 0) 7 (some (0, 8)))
  replace z0 : (xg H9 0 0 (va_up (H9 0 0) 7 (some (0, 8)))) 0 0 0 = some (1, 0) := (by rw [xg_eq, va_up_no _ _ (by decide)]; exact z0)
  replace z1 : (xg H9 0 0 (va_up (H9 0 0) 7 (some (0, 8)))) 0 0 1 = some (2, 0) := (by rw [xg_eq, va_up_no _ _ (by decide)]; exact z1)
  replace z2 : (xg H9 0 0 (va_up (H9 0 0) 7 (some (0, 8)))) 0 0 2 = some (3, 0) := (by rw [xg_eq, va_up_no _ _ (by decide)]; exact z2)
  replace z3 : (xg H9 0 0 (va_up (H9 0 0) 7 (some (0, 8)))) 0 0 3 = some (4, 0) := (by rw [xg_eq, va_up_no _ _ (by decide)]; exact z3)
  replace z4 : (xg H9 0 0 (va_up (H9 0 0) 7 (some (0, 8)))) 0 0 4 = some (5, 0) := (by rw [xg_eq, va_up_no _ _ (by decide)]; exact z4)
  replace z5 : (xg H9 0 0 (va_up (H9 0 0) 7 (some (0, 8)))) 0 0 5 = some (30, 0) := (by rw [xg_eq, va_up_no _ _ (by decide)]; exact z5)
  replace z6 : (xg H9 0 0 (va_up (H9 0 0) 7 (some (0, 8)))) 0 0 6 = some (32, 0) := (by rw [xg_eq, va_up_no _ _ (by decide)]; exact z6)
  replace j0 : (xg H9 0 0 (va_up (H9 0 0) 7 (some (0, 8)))) 0 8 0 = some (33, 0) := (by rw [xg_no _ _ (by decide)]; exact j0)
  replace j1 : (xg H9 0 0 (va_up (H9 0 0) 7 (some (0, 8)))) 0 8 1 = some (34, 0) := (by rw [xg_no _ _ (by decide)]; exact j1)
  replace y0 := p1.1 _ y0
  replace f1 := f1.gr p1 (by omega)
  replace rr := fun (i : Nat) (hi : i < 8) => And.intro ((congrFun (congrFun (p1.2.2 1 (by omega)) 1) i).trans (rr i hi).1) (p1.1 _ (rr i hi).2)
  replace f2 := f2.gr p1 (by omega)
  replace t3 := t3.gr p1 (by omega)
  replace t4 := t4.gr p1 (by omega)
  replace f5 := f5.gr p1 (by omega)
  replace aa := fun (i : Nat) (hi : i < 24) => And.intro ((aa i hi).1.gr p1 (by omega)) ((congrFun (congrFun (p1.2.2 5 (by omega)) 1) i).trans (aa i hi).2)
  replace f30 := f30.gr p1 (by omega)
  replace t31 := t31.gr p1 (by omega)
  replace f32 := f32.gr p1 (by omega)
  replace y8 := p1.1 _ y8
  replace t33 := t33.gr p1 (by omega)
  replace t34 := t34.gr p1 (by omega)
  have z7 : (xg H9 0 0 (va_up (H9 0 0) 7 (some (0, 8)))) 0 0 7 = some (0, 8) := (by rw [xg_eq, va_up_eq])
  replace gA : Gr (fun q => q ≤ 34) Y G _ _ := (gA.tr p1).le (fun q hq => by omega)
  generalize (xg H9 0 0 (va_up (H9 0 0) 7 (some (0, 8)))) = GF at *
  refine V_ald0 dX6_init_109 ?_
  refine V_iconst (v := 0) dX6_init_110 (by decide) ?_
  refine V_pZ dX6_init_111 fwX6_58 y0 (hN1 0 0 8 (by decide)) ?_
  refine V_ald0 dX6_init_114 ?_
  refine V_iconst (v := 0) dX6_init_115 (by decide) ?_
  refine V_pZ dX6_init_116 fwX6_62 y0 (hN1 0 0 9 (by decide)) ?_
  refine V_return dX6_init_119 rfl ?_
  rw [← hNN]
  refine hQ _ _ gA ⟨⟨fun c k h => ?_, fun k q h => ?_⟩, f1, f2, f5, f30, f32, fun r hr => ?_, rr, fun i hi => (aa i hi).2, fun i hi => ?_⟩
  · unfold xK0 at h
    split at h
    · cases h; exact y0
    · cases h; exact y8
    · cases h
  · unfold xJ0 at h
    split at h
    · cases h; exact z0
    · cases h; exact z1
    · cases h; exact z2
    · cases h; exact z3
    · cases h; exact z4
    · cases h; exact z5
    · cases h; exact z6
    · cases h; exact z7
    · cases h
  · unfold isTr at hr
    simp only [Bool.or_eq_true, beq_iff_eq, Bool.and_eq_true, decide_eq_true_eq] at hr
    rcases hr with ((((rfl | rfl) | hq) | rfl) | rfl) | rfl
    · exact t3
    · exact t4
    · have := (aa (r - 6) (by omega)).1
      rw [show 6 + (r - 6) = r by omega] at this
      exact this
    · exact t31
    · exact t33
    · exact t34
  · rcases (show i = 0 ∨ i = 1 by omega) with rfl | rfl
    · exact j0
    · exact j1
end KI
