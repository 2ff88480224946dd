section BB
variable {bd : Nat} {Y : xY} {G : xG} {N : xM} {a b2 e l x y z v w : Int32}
theorem pN_cg {b c : Nat → Int32} {n : Nat} (h : ∀ i, pBy b n i = pBy c n i) (a : Nat) : pN b n a = pN c n a := by
  unfold pN
  simp only [pFg, h]
theorem pNm_cg {b c : Nat → Int32} {n : Nat} (h : ∀ i, pBy b n i = pBy c n i) (lo hi : Int32) (a : Nat) : pNm b n lo hi a = pNm c n lo hi a := by
  unfold pNm
  rw [pN_cg h]
theorem pMar_cg {b c : Nat → Int32} {n : Nat} (h : ∀ i, pBy b n i = pBy c n i) (a : Nat) : pMar b n a = pMar c n a := by
  unfold pMar
  simp only [h, pNm_cg h]
theorem pLaw_cg {b c : Nat → Int32} {n : Nat} (h : ∀ i, pBy b n i = pBy c n i) (a : Nat) : pLaw b n a = pLaw c n a := by
  unfold pLaw
  simp only [h, pNm_cg h]
theorem pPie_cg {b c : Nat → Int32} {n : Nat} (h : ∀ i, pBy b n i = pBy c n i) (p a : Nat) : pPie b n p a = pPie c n p a := by
  unfold pPie
  simp only [h, pNm_cg h]
theorem pMs_cg {b c : Nat → Int32} {n : Nat} (h : ∀ i, pBy b n i = pBy c n i) : ∀ k i a, pMs b n k i a = pMs c n k i a
  | 0, _, _ => rfl
  | k + 1, i, a => by
    rw [pMs, pMs]
    simp only [h, pMar_cg h, pMs_cg h k]
theorem pPs_cg {b c : Nat → Int32} {n : Nat} (h : ∀ i, pBy b n i = pBy c n i) : ∀ k i a, pPs b n k i a = pPs c n k i a
  | 0, _, _ => rfl
  | k + 1, i, a => by
    rw [pPs, pPs]
    simp only [h, pPie_cg h, pPs_cg h k]
theorem pRun_cg {b c : Nat → Int32} {n : Nat} (h : ∀ j, j < n → b j = c j) : pRun b n = pRun c n := by
  have h2 : ∀ i, pBy b n i = pBy c n i := fun i => by
    unfold pBy
    split
    · exact h i ‹_›
    · rfl
  unfold pRun
  simp only [pLaw_cg h2, pMs_cg h2, pPs_cg h2]
theorem pNm_ok {b : Nat → Int32} {n a a2 : Nat} {lo hi v : Int32} (h : pNm b n lo hi a = .inr (v, a2)) : rIn v lo hi := by
  unfold pNm at h
  split at h
  · cases h
  · split at h
    · cases h
    · rename_i c
      cases h
      exact ⟨fun q => c (Or.inl q), fun q => c (Or.inr q)⟩
theorem pMar_ok {b : Nat → Int32} {n a a2 : Nat} {w s : Int32} (h : pMar b n a = .inr (w, s, a2)) : rIn w (nI 1) (nI 9) := by
  unfold pMar at h
  split at h
  · split at h
    · cases h
    · rename_i e1
      split at h
      · split at h
        · cases h
        · split at h
          · cases h
            exact pNm_ok e1
          · cases h
      · cases h
  · cases h
theorem pPie_ok {b : Nat → Int32} {n p a a2 : Nat} {v l r : Int32} (h : pPie b n p a = .inr (v, l, r, a2)) : rIn v (nI 0) (nI 1) ∧ rIn l (nI (p + 1)) (nI 9) ∧ rIn r (nI (p + 1)) (nI 9) := by
  unfold pPie at h
  split at h
  · cases h
  · rename_i e1
    split at h
    · split at h
      · cases h
      · rename_i e2
        split at h
        · split at h
          · cases h
          · rename_i e3
            split at h
            · cases h
              exact ⟨pNm_ok e1, pNm_ok e2, pNm_ok e3⟩
            · cases h
        · cases h
    · cases h
def MsOK (l : List (Int32 × Int32)) : Prop := ∀ q ∈ l, rIn q.1 (nI 1) (nI 9)
def PsOK : Nat → List (Int32 × Int32 × Int32 × Int32) → Prop
  | _, [] => True
  | i, q :: l => (∃ s, 1 ≤ s ∧ s ≤ 5 ∧ q.1 = nI s) ∧ rIn q.2.1 (nI 0) (nI 1) ∧ rIn q.2.2.1 (nI (i + 1)) (nI 9) ∧ rIn q.2.2.2 (nI (i + 1)) (nI 9) ∧ PsOK (i + 1) l
theorem pMs_ok {b : Nat → Int32} {n : Nat} : ∀ (k i a : Nat) {l : List (Int32 × Int32)} {a2 : Nat}, i + k = 7 → i ≤ 6 → pMs b n k i a = .inr (l, a2) → i + l.length ≤ 6 ∧ (i = 0 → 1 ≤ l.length) ∧ MsOK l
  | 0, i, a, l, a2, h1, h2, h => absurd h1 (by omega)
  | k + 1, i, a, l, a2, h1, h2, h => by
    rw [pMs] at h
    split at h
    · split at h
      · cases h
      · rename_i c6
        split at h
        · cases h
        · rename_i e1
          split at h
          · cases h
          · rename_i e2
            cases h
            obtain ⟨q1, q2, q3⟩ := pMs_ok k (i + 1) _ (by omega) (by omega) e2
            refine ⟨by rw [List.length_cons]; omega, fun _ => by rw [List.length_cons]; omega, fun q hq => ?_⟩
            rcases List.mem_cons.mp hq with e | e
            · rw [e]; exact pMar_ok e1
            · exact q3 q e
    · rename_i c
      cases h
      exact ⟨by simp only [List.length_nil]; omega, fun e => absurd (Or.inl e) c, fun q hq => absurd hq List.not_mem_nil⟩
theorem pSo_ok {x : Int32} (h : ¬ pSo x = 0) : ∃ s, 1 ≤ s ∧ s ≤ 5 ∧ pSo x = nI s := by
  unfold pSo at *
  repeat' split
  all_goals first | exact ⟨1, by decide, by decide, rfl⟩ | exact ⟨3, by decide, by decide, rfl⟩ | exact ⟨2, by decide, by decide, rfl⟩ | exact ⟨4, by decide, by decide, rfl⟩ | exact ⟨5, by decide, by decide, rfl⟩ | skip
  all_goals
    exfalso
    apply h
    repeat rw [if_neg ‹_›]
    rfl
theorem pPs_ok {b : Nat → Int32} {n : Nat} : ∀ (k i a : Nat) {l : List (Int32 × Int32 × Int32 × Int32)}, i + k = 9 → i ≤ 8 → pPs b n k i a = .inr l → i + l.length ≤ 8 ∧ (i = 0 → 1 ≤ l.length) ∧ PsOK i l
  | 0, i, a, l, h1, h2, h => absurd h1 (by omega)
  | k + 1, i, a, l, h1, h2, h => by
    rw [pPs] at h
    split at h
    · split at h
      · cases h
      · rename_i cs
        split at h
        · cases h
        · rename_i c8
          split at h
          · cases h
          · rename_i e1
            split at h
            · cases h
            · rename_i e2
              cases h
              obtain ⟨q1, q2, q3⟩ := pPs_ok k (i + 1) _ (by omega) (by omega) e2
              have e3 := pPie_ok e1
              exact ⟨by rw [List.length_cons]; omega, fun _ => by rw [List.length_cons]; omega, pSo_ok cs, e3.1, e3.2.1, e3.2.2, q3⟩
    · rename_i c
      cases h
      exact ⟨by simp only [List.length_nil]; omega, fun e => absurd (Or.inl e) c, trivial⟩
theorem pRun_ok {b : Nat → Int32} {n : Nat} {v : Int32} {ms : List (Int32 × Int32)} {ps : List (Int32 × Int32 × Int32 × Int32)} (h : pRun b n = .inr (v, ms, ps)) : (1 ≤ ms.length ∧ ms.length ≤ 6 ∧ MsOK ms) ∧ 1 ≤ ps.length ∧ ps.length ≤ 8 ∧ PsOK 0 ps := by
  unfold pRun at h
  split at h
  · cases h
  · split at h
    · cases h
    · rename_i e1
      split at h
      · cases h
      · rename_i e2
        cases h
        obtain ⟨q1, q2, q3⟩ := pMs_ok 7 0 _ (by omega) (by omega) e1
        obtain ⟨r1, r2, r3⟩ := pPs_ok 9 0 _ (by omega) (by omega) e2
        exact ⟨⟨q2 rfl, by omega, q3⟩, r2 rfl, by omega, r3⟩
/-- a run told so far: marbles -/
def HM (k : Nat) (v : Int32) (T : xT) (f : Nat → Int32) : Prop := T 0 0 = v ∧ T 0 1 = nI 0 ∧ T 0 4 = nI 0 ∧ (1 ≤ k → T 0 2 = nI k) ∧ (∀ j, j < 6 → T 8 j = nI 10) ∧ (∀ p, p < 8 → T 13 p = -1000000 ∧ T 14 p = nI 0 ∧ T 15 p = nI 0) ∧ (∀ j, j < k → T 6 j = f (55 + j) ∧ T 7 j = f (61 + j) ∧ f (49 + j) = nI 10 ∧ ∃ w, 1 ≤ w ∧ w ≤ 9 ∧ T 6 j = nI w) ∧ f 0 = nI 0 ∧ ∀ p, p < 8 → f (25 + p) = -1000000 ∧ f (33 + p) = nI 0 ∧ f (41 + p) = nI 0
theorem HM.step {k : Nat} {v : Int32} {T : xT} {f : Nat → Int32} (h : HM k v T f) (hk : k < 6) {w s : Int32} (hw : rIn w (nI 1) (nI 9)) : HM (k + 1) v (tMb (tM T k w s) (k + 1)) (upd (upd (upd f (55 + k) w) (61 + k) s) (49 + k) (nI 10)) := by
  obtain ⟨a1, a2, a3, a4, a5, a6, a7, a8, a9⟩ := h
  have e0 : ∀ q, q ≠ 2 → tMb (tM T k w s) (k + 1) 0 q = T 0 q := fun q hq => by
    unfold tMb tM
    rw [va_up_eq, upd_no _ _ hq, va_up_no _ _ (by decide), va_up_no _ _ (by decide)]
  have e02 : tMb (tM T k w s) (k + 1) 0 2 = nI (k + 1) := by
    unfold tMb
    rw [va_up_eq, upd_eq]
  have ec : ∀ c, c ≠ 0 → c ≠ 6 → c ≠ 7 → tMb (tM T k w s) (k + 1) c = T c := fun c h0 h6 h7 => by
    unfold tMb tM
    rw [va_up_no _ _ h0, va_up_no _ _ h7, va_up_no _ _ h6]
  have e6 : tMb (tM T k w s) (k + 1) 6 = upd (T 6) k w := by
    unfold tMb tM
    rw [va_up_no _ _ (by decide), va_up_no _ _ (by decide), va_up_eq]
  have e7 : tMb (tM T k w s) (k + 1) 7 = upd (T 7) k s := by
    unfold tMb tM
    rw [va_up_no _ _ (by decide), va_up_eq, va_up_no _ _ (by decide)]
  have ef : ∀ q, q ≠ 55 + k → q ≠ 61 + k → q ≠ 49 + k → upd (upd (upd f (55 + k) w) (61 + k) s) (49 + k) (nI 10) q = f q := fun q h1 h2 h3 => by rw [upd_no _ _ h3, upd_no _ _ h2, upd_no _ _ h1]
  refine ⟨by rw [e0 0 (by decide)]; exact a1, by rw [e0 1 (by decide)]; exact a2, by rw [e0 4 (by decide)]; exact a3, fun _ => e02, fun j hj => ?_, fun p hp => ?_, fun j hj => ?_, by rw [ef 0 (by omega) (by omega) (by omega)]; exact a8, fun p hp => ?_⟩
  · rw [ec 8 (by decide) (by decide) (by decide)]; exact a5 j hj
  · rw [ec 13 (by decide) (by decide) (by decide), ec 14 (by decide) (by decide) (by decide), ec 15 (by decide) (by decide) (by decide)]; exact a6 p hp
  · rw [e6, e7]
    by_cases e : j = k
    · subst e
      rw [upd_eq, upd_eq, upd_no _ _ (show 55 + j ≠ 49 + j by omega), upd_no _ _ (show 55 + j ≠ 61 + j by omega), upd_eq, upd_no _ _ (show 61 + j ≠ 49 + j by omega), upd_eq, upd_eq]
      obtain ⟨q, q1, q2, q3⟩ := rIn_k hw (by decide) (by decide)
      exact ⟨rfl, rfl, rfl, q, q1, q2, q3⟩
    · rw [upd_no _ _ e, upd_no _ _ e, ef (55 + j) (by omega) (by omega) (by omega), ef (61 + j) (by omega) (by omega) (by omega), ef (49 + j) (by omega) (by omega) (by omega)]
      exact a7 j (by omega)
  · rw [ef (25 + p) (by omega) (by omega) (by omega), ef (33 + p) (by omega) (by omega) (by omega), ef (41 + p) (by omega) (by omega) (by omega)]
    exact a9 p hp
theorem HM.all {v : Int32} : ∀ (l : List (Int32 × Int32)) {k : Nat} {T : xT} {f : Nat → Int32}, HM k v T f → k + l.length ≤ 6 → MsOK l → HM (k + l.length) v (tMl T k l) (rMl f k l)
  | [], _, _, _, h, _, _ => h
  | q :: l, k, T, f, h, hl, hm => by
    rw [List.length_cons] at hl
    rw [tMl, rMl, List.length_cons, show k + (l.length + 1) = k + 1 + l.length by omega]
    exact HM.all l (h.step (by omega) (hm q List.mem_cons_self)) (by omega) (fun r hr => hm r (List.mem_cons_of_mem _ hr))
def HP (k m : Nat) (v : Int32) (T : xT) (g f : Nat → Int32) : Prop := HM m v T f ∧ (1 ≤ k → T 0 3 = nI k) ∧ ∀ p, p < k → T 9 p = g p ∧ T 10 p = f (1 + p) ∧ T 11 p = f (9 + p) ∧ T 12 p = f (17 + p) ∧ (∃ s, 1 ≤ s ∧ s ≤ 5 ∧ T 9 p = nI s) ∧ (T 10 p = nI 0 ∨ T 10 p = nI 1) ∧ (∃ q, T 11 p = nI q ∧ p < q ∧ q ≤ 9) ∧ ∃ q, T 12 p = nI q ∧ p < q ∧ q ≤ 9
theorem HP.step {k m : Nat} {v : Int32} {T : xT} {g f : Nat → Int32} (h : HP k m v T g f) (hk : k < 8) (hm : m ≤ 6) {s w l r : Int32} (hs : ∃ q, 1 ≤ q ∧ q ≤ 5 ∧ s = nI q) (hw : rIn w (nI 0) (nI 1)) (hl : rIn l (nI (k + 1)) (nI 9)) (hr : rIn r (nI (k + 1)) (nI 9)) : HP (k + 1) m v (tPb (tP T k s w l r) (k + 1)) (upd g k s) (upd (upd (upd f (1 + k) w) (9 + k) l) (17 + k) r) := by
  obtain ⟨⟨a1, a2, a3, a4, a5, a6, a7, a8, a9⟩, b1, b2⟩ := h
  have e0 : ∀ q, q ≠ 3 → tPb (tP T k s w l r) (k + 1) 0 q = T 0 q := fun q hq => by
    unfold tPb tP
    rw [va_up_eq, upd_no _ _ hq, va_up_no _ _ (by decide), va_up_no _ _ (by decide), va_up_no _ _ (by decide), va_up_no _ _ (by decide)]
  have e03 : tPb (tP T k s w l r) (k + 1) 0 3 = nI (k + 1) := by
    unfold tPb
    rw [va_up_eq, upd_eq]
  have ec : ∀ c, c ≠ 0 → c ≠ 9 → c ≠ 10 → c ≠ 11 → c ≠ 12 → tPb (tP T k s w l r) (k + 1) c = T c := fun c h0 h9 h10 h11 h12 => by
    unfold tPb tP
    rw [va_up_no _ _ h0, va_up_no _ _ h12, va_up_no _ _ h11, va_up_no _ _ h10, va_up_no _ _ h9]
  have e9 : tPb (tP T k s w l r) (k + 1) 9 = upd (T 9) k s := rfl
  have e10 : tPb (tP T k s w l r) (k + 1) 10 = upd (T 10) k w := rfl
  have e11 : tPb (tP T k s w l r) (k + 1) 11 = upd (T 11) k l := rfl
  have e12 : tPb (tP T k s w l r) (k + 1) 12 = upd (T 12) k r := rfl
  have ef : ∀ q, q ≠ 1 + k → q ≠ 9 + k → q ≠ 17 + k → upd (upd (upd f (1 + k) w) (9 + k) l) (17 + k) r q = f q := fun q h1 h2 h3 => by rw [upd_no _ _ h3, upd_no _ _ h2, upd_no _ _ h1]
  refine ⟨⟨by rw [e0 0 (by decide)]; exact a1, by rw [e0 1 (by decide)]; exact a2, by rw [e0 4 (by decide)]; exact a3, by rw [e0 2 (by decide)]; exact a4, fun j hj => ?_, fun p hp => ?_, fun j hj => ?_, by rw [ef 0 (by omega) (by omega) (by omega)]; exact a8, fun p hp => ?_⟩, fun _ => e03, fun p hp => ?_⟩
  · rw [ec 8 (by decide) (by decide) (by decide) (by decide) (by decide)]; exact a5 j hj
  · rw [ec 13 (by decide) (by decide) (by decide) (by decide) (by decide), ec 14 (by decide) (by decide) (by decide) (by decide) (by decide), ec 15 (by decide) (by decide) (by decide) (by decide) (by decide)]; exact a6 p hp
  · rw [ec 6 (by decide) (by decide) (by decide) (by decide) (by decide), ec 7 (by decide) (by decide) (by decide) (by decide) (by decide), ef (55 + j) (by omega) (by omega) (by omega), ef (61 + j) (by omega) (by omega) (by omega), ef (49 + j) (by omega) (by omega) (by omega)]
    exact a7 j hj
  · rw [ef (25 + p) (by omega) (by omega) (by omega), ef (33 + p) (by omega) (by omega) (by omega), ef (41 + p) (by omega) (by omega) (by omega)]
    exact a9 p hp
  · rw [e9, e10, e11, e12]
    by_cases e : p = k
    · subst e
      rw [upd_eq, upd_eq, upd_eq, upd_eq, upd_eq, upd_no _ _ (show 1 + p ≠ 17 + p by omega), upd_no _ _ (show 1 + p ≠ 9 + p by omega), upd_eq, upd_no _ _ (show 9 + p ≠ 17 + p by omega), upd_eq, upd_eq]
      obtain ⟨q, q1, q2, q3⟩ := rIn_k hw (by decide) (by decide)
      obtain ⟨x, x1, x2, x3⟩ := rIn_k hl (by decide) (by omega)
      obtain ⟨z, z1, z2, z3⟩ := rIn_k hr (by decide) (by omega)
      refine ⟨rfl, rfl, rfl, rfl, hs, ?_, ⟨x, x3, by omega, x2⟩, z, z3, by omega, z2⟩
      have : q = 0 ∨ q = 1 := by omega
      rcases this with e | e
      · left; rw [q3, e]
      · right; rw [q3, e]
    · rw [upd_no _ _ e, upd_no _ _ e, upd_no _ _ e, upd_no _ _ e, upd_no _ _ e, ef (1 + p) (by omega) (by omega) (by omega), ef (9 + p) (by omega) (by omega) (by omega), ef (17 + p) (by omega) (by omega) (by omega)]
      exact b2 p (by omega)
theorem HP.all {m : Nat} {v : Int32} (hm : m ≤ 6) : ∀ (l : List (Int32 × Int32 × Int32 × Int32)) {k : Nat} {T : xT} {g f : Nat → Int32}, HP k m v T g f → k + l.length ≤ 8 → PsOK k l → HP (k + l.length) m v (tPl T k l) (rSl g k l) (rPl f k l)
  | [], _, _, _, _, h, _, _ => h
  | q :: l, k, T, g, f, h, hl, hp => by
    rw [List.length_cons] at hl
    rw [tPl, rPl, rSl, List.length_cons, show k + (l.length + 1) = k + 1 + l.length by omega]
    exact HP.all hm l (h.step (by omega) hm hp.1 hp.2.1 hp.2.2.1 hp.2.2.2.1) (by omega) hp.2.2.2.2
theorem HP.live {mb pn : Nat} {v : Int32} {T : xT} {g f o : Nat → Int32} (h : HP pn mb v T g f) (h1 : 1 ≤ mb) (h6 : mb ≤ 6) (p1 : 1 ≤ pn) (p8 : pn ≤ 8) (o7 : o 7 = v) (o8 : o 8 = nI mb) (o9 : o 9 = nI pn) (o11 : o 11 = 0) : Live bd mb pn T o g f := by
  obtain ⟨⟨a1, a2, a3, a4, a5, a6, a7, a8, a9⟩, b1, b2⟩ := h
  refine ⟨h1, ⟨⟨a1.trans o7.symm, a4 h1, o8, b1 p1, o9, a3.trans o11.symm, fun p hp => (b2 p hp).1, fun c hc j hj => ?_, fun c hc p hp => ?_⟩, a2.trans a8.symm⟩, o11, ⟨h6, p1, p8, a4 h1, b1 p1, fun j hj => ⟨10, a5 j (by omega), by omega⟩, fun p hp => Or.inl (a6 p (by omega)).1, fun p hp => (b2 p hp).2.2.2.2.2.2.1, fun p hp => (b2 p hp).2.2.2.2.2.2.2, fun p hp => ⟨0, by omega, (a6 p (by omega)).2.1⟩, fun p hp => (b2 p hp).2.2.2.2.2.1⟩, fun j hj => (a7 j hj).2.2.2, fun p hp => (b2 p hp).2.2.2.2.1, (Pot.new h6 (fun p hp => (a6 p (by omega)).2.2)).le (by omega)⟩
  · rcases bsM_cases hc with rfl | rfl | rfl
    · exact (a7 j hj).1
    · exact (a7 j hj).2.1
    · exact (a5 j (by omega)).trans (a7 j hj).2.2.1.symm
  · rcases bsP_cases hc with rfl | rfl | rfl | rfl | rfl | rfl
    · exact (b2 p hp).2.1
    · exact (b2 p hp).2.2.1
    · exact (b2 p hp).2.2.2.1
    · exact (a6 p (by omega)).1.trans (a9 p (by omega)).1.symm
    · exact (a6 p (by omega)).2.1.trans (a9 p (by omega)).2.1.symm
    · exact (a6 p (by omega)).2.2.trans (a9 p (by omega)).2.2.symm
theorem HM.zero (T : xT) (v : Int32) {f0 : Nat → Int32} (h : rRd f0) : HM 0 v (tBar (tClear T) v) f0 := by
  refine ⟨?_, rfl, rfl, fun q => absurd q (by omega), fun j hj => ?_, fun p hp => ⟨?_, ?_, ?_⟩, fun j hj => absurd hj (by omega), ?_, fun p hp => ⟨?_, ?_, ?_⟩⟩
  · unfold tBar
    rw [va_up_eq, upd_eq]
  · show xFill (T 8) (nI 10) 6 j = _
    unfold xFill
    rw [if_pos hj]
  · show xFill (T 13) (-1000000) 8 p = _
    unfold xFill
    rw [if_pos hp]
  · show xFill (T 14) (nI 0) 8 p = _
    unfold xFill
    rw [if_pos hp]
  · show xFill (T 15) (nI 0) 8 p = _
    unfold xFill
    rw [if_pos hp]
  · rw [h 0 (by omega), if_neg (by omega)]
  · rw [h (25 + p) (by omega), if_pos (by omega)]
  · rw [h (33 + p) (by omega), if_neg (by omega)]
  · rw [h (41 + p) (by omega), if_neg (by omega)]
theorem b_run (h : Rl bd Y G N (N 40)) : Both bd 16 cX6_run 2 [some (xR 0 0), none] cX7_run 1 [some (xR 40 0)] Y G N := by
  obtain ⟨n, hn, n1, n2, n3⟩ := h.2.2.1
  obtain ⟨mb, pn, hrun, nx, mn, b1, b2, b3, b4, b5, b6⟩ := h.2.2.2.2.2.2
  have hpr : pRun (N 2 1) n = pRun (N 40 5) n := pRun_cg (fun j hj => (n3 j hj).1)
  have hby : ∀ j, j < n → ¬ pBy (N 40 5) n j = -1 := fun j hj => by
    unfold pBy
    rw [if_pos hj, ← (n3 j hj).1]
    exact (n3 j hj).2
  have ho11 : N 40 0 11 = 0 := by
    rcases hrun with hr0 | L
    · exact hr0.2.2.2.2.2.2.2
    · exact L.2.2.1
  refine kX6_run (d := 10) h.1 n1 hn (fun f pl U2 T2 hp hu => ⟨rfl, ?_⟩) (fun v ms ps U2 hp hu => ⟨rfl, ?_⟩)
  · have e40 : va_up (va_up (va_up N 4 T2) 2 (uClr U2)) 0 (va_up (N 0) 0 (upd (N 0 0) 8 (nI f))) 40 = N 40 := rfl
    refine V_in1 40 ?_
    rw [e40]
    refine kX7_run (d := 11) h.1.mo n2 hn hby (fun f' pl' S2 hp' hk s5 s6 => ?_) (fun v ms ps f0 S2 hp' => ?_)
    · have e := hp.symm.trans (hpr.trans hp')
      cases e
      refine ⟨rfl, rfl, ⟨_, rfl⟩, ?_⟩
      obtain ⟨a1, a2, a3, a4, a5, a6⟩ := h.toZ
      have hc : ∀ c, c < 18 ∨ c = 20 → c ≠ 0 → S2 c = N 40 c := fun c h1 h2 => hk.1 c h2 (by omega) (by omega) (by omega) (by omega) (by omega) (by omega) (by omega)
      have ho : oEq (S2 0) (N 40 0) := ⟨hk.2 7 (by decide) (by decide) (by decide), hk.2 8 (by decide) (by decide) (by decide), hk.2 9 (by decide) (by decide) (by decide), hk.2 11 (by decide) (by decide) (by decide)⟩
      have hC : ∀ r, r ≠ 0 → r ≠ 2 → r ≠ 4 → va_up (va_up (va_up N 4 T2) 2 (uClr U2)) 0 (va_up (N 0) 0 (upd (N 0 0) 8 (nI f))) r = N r := fun r h0 h2 h4 => by rw [va_up_no _ _ h0, va_up_no _ _ h2, va_up_no _ _ h4]
      refine Rz.toL (mb := mb) (pn := pn) (nx := nx) (mn := mn) ⟨a1, ?_, ?_, ⟨?_, ?_⟩, ?_, fun i hi => ?_⟩ ?_ ?_
      · rw [hC 1 (by decide) (by decide) (by decide)]; exact a2.cg (hc 1 (by decide) (by decide)) (hc 2 (by decide) (by decide)) (hc 3 (by decide) (by decide))
      · rw [va_up_no _ _ (by decide), va_up_eq]
        exact ⟨0, by omega, rfl, s5, fun j hj => absurd hj (by omega)⟩
      · rw [va_up_eq, va_up_eq, upd_eq]; exact s6.symm
      · rw [va_up_eq, va_up_eq, upd_no _ _ (by decide), hk.2 3 (by decide) (by decide) (by decide)]; exact a4.2
      · rw [hC 32 (by decide) (by decide) (by decide)]; exact a5.cg (hk.2 20 (by decide) (by decide) (by decide)) (hc 20 (by decide) (by decide))
      · rw [hC (33 + i) (by omega) (by omega) (by omega)]; exact (a6 i hi).cg (hc 16 (by decide) (by decide)) (hc 17 (by decide) (by decide))
      · rw [hC 3 (by decide) (by decide) (by decide), hc 11 (by decide) (by decide), hc 13 (by decide) (by decide)]; exact hrun.oeq ho
      · refine ⟨b1, b2, by rw [hC 5 (by decide) (by decide) (by decide)]; exact b3, by rw [hC 5 (by decide) (by decide) (by decide)]; exact b4, (hk.2 14 (by decide) (by decide) (by decide)).trans b5, fun i hi => ?_⟩
        rw [hC _ (by omega) (by omega) (by omega), hc 11 (by decide) (by decide), hc 14 (by decide) (by decide)]
        exact (b6 i hi).oeq ho
    · have e := hp.symm.trans (hpr.trans hp')
      cases e
  · have e40 : va_up (va_up (va_up (va_up N 4 (tPl (tMl (tBar (tClear (N 4)) v) 0 ms) 0 ps)) 2 (uClr U2)) 3 (tLike (N 3) (tPl (tMl (tBar (tClear (N 4)) v) 0 ms) 0 ps))) 5 (va_up (N 5) 0 (upd (N 5 0) 2 (nI 0))) 40 = N 40 := rfl
    refine V_in1 40 ?_
    rw [e40]
    refine kX7_run (d := 11) h.1.mo n2 hn hby (fun f' pl' S2 hp' => ?_) (fun v' ms' ps' f0 S2 hp' h0 hk s5 s7 s8 s9 s14 s11 s13 => ?_)
    · have e := hp.symm.trans (hpr.trans hp')
      cases e
    · have e := hp.symm.trans (hpr.trans hp')
      cases e
      obtain ⟨⟨m1, m6, m0⟩, p1, p8, p0⟩ := pRun_ok hp
      have H := (HM.zero (N 4) v h0).all ms (by omega) m0
      rw [Nat.zero_add] at H
      have H2 : HP 0 ms.length v (tMl (tBar (tClear (N 4)) v) 0 ms) (N 40 28) (rMl f0 0 ms) := ⟨H, fun q => absurd q (by omega), fun p hp => absurd hp (by omega)⟩
      have H3 := HP.all m6 ps H2 (by omega) p0
      rw [Nat.zero_add] at H3
      have o11 : S2 0 11 = 0 := (hk.2 11 (by decide) (by decide) (by decide) (by decide) (by decide) (by decide)).trans ho11
      have L := H3.live (bd := bd) (o := S2 0) m1 m6 p1 p8 s7 s8 s9 o11
      have e03 : tLike (N 3) (tPl (tMl (tBar (tClear (N 4)) v) 0 ms) 0 ps) 0 3 = nI ps.length := (L.like (N 3)).ok.e3
      refine ⟨rfl, by rw [e03], ⟨_, rfl⟩, ?_⟩
      obtain ⟨a1, a2, a3, a4, a5, a6⟩ := h.toZ
      have hc : ∀ c, c < 18 ∨ c = 20 → c ≠ 0 → c ≠ 11 → c ≠ 13 → S2 c = N 40 c := fun c h1 h2 h11 h13 => hk.1 c h2 (by omega) (by omega) (by omega) (by omega) (by omega) (by omega) (by omega) h11 h13
      have h0k : ∀ k, k < 21 → k ≠ 5 → k ≠ 7 → k ≠ 8 → k ≠ 9 → k ≠ 14 → S2 0 k = N 40 0 k := hk.2
      have hC : ∀ r, r ≠ 2 → r ≠ 3 → r ≠ 4 → r ≠ 5 → va_up (va_up (va_up (va_up N 4 (tPl (tMl (tBar (tClear (N 4)) v) 0 ms) 0 ps)) 2 (uClr U2)) 3 (tLike (N 3) (tPl (tMl (tBar (tClear (N 4)) v) 0 ms) 0 ps))) 5 (va_up (N 5) 0 (upd (N 5 0) 2 (nI 0))) r = N r := fun r h2 h3 h4 h5 => by rw [va_up_no _ _ h5, va_up_no _ _ h3, va_up_no _ _ h2, va_up_no _ _ h4]
      refine Rz.toL (mb := ms.length) (pn := ps.length) (nx := nx) (mn := 0) ⟨a1, ?_, ?_, ⟨?_, ?_⟩, ?_, fun i hi => ?_⟩ ?_ ?_
      · rw [hC 1 (by decide) (by decide) (by decide) (by decide)]; exact a2.cg (hc 1 (by decide) (by decide) (by decide) (by decide)) (hc 2 (by decide) (by decide) (by decide) (by decide)) (hc 3 (by decide) (by decide) (by decide) (by decide))
      · rw [va_up_no _ _ (by decide), va_up_no _ _ (by decide), va_up_eq]
        exact ⟨0, by omega, rfl, s5, fun j hj => absurd hj (by omega)⟩
      · rw [hC 0 (by decide) (by decide) (by decide) (by decide), h0k 6 (by decide) (by decide) (by decide) (by decide) (by decide) (by decide)]; exact a4.1
      · rw [hC 0 (by decide) (by decide) (by decide) (by decide), h0k 3 (by decide) (by decide) (by decide) (by decide) (by decide) (by decide)]; exact a4.2
      · rw [hC 32 (by decide) (by decide) (by decide) (by decide)]; exact a5.cg (h0k 20 (by decide) (by decide) (by decide) (by decide) (by decide) (by decide)) (hc 20 (by decide) (by decide) (by decide) (by decide))
      · rw [hC (33 + i) (by omega) (by omega) (by omega) (by omega)]; exact (a6 i hi).cg (hc 16 (by decide) (by decide) (by decide) (by decide)) (hc 17 (by decide) (by decide) (by decide) (by decide))
      · rw [va_up_no _ _ (by decide), va_up_eq]
        exact Or.inr (((L.like _).so (fun p hp => s11 p hp)).ag (fun j hj => s13 j hj))
      · refine ⟨b1, by omega, ?_, ?_, s14, fun i hi => absurd hi (by omega)⟩
        · rw [va_up_eq, va_up_eq, upd_no _ _ (by decide)]; exact b3
        · rw [va_up_eq, va_up_eq, upd_eq]
end BB
