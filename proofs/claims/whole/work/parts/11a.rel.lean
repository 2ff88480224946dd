/-! CLASS AND REFERENCE, side by side; 54 + bd bounds what can go over a piece -/
section BD
variable {bd : Nat}
def Wok (bd mb pn : Nat) (T : xT) : Prop := (∀ j, j < mb → ∃ w, 1 ≤ w ∧ w ≤ 9 ∧ T 6 j = nI w) ∧ (∀ p, p < pn → ∃ s, 1 ≤ s ∧ s ≤ 5 ∧ T 9 p = nI s) ∧ Pot (54 + bd) mb pn T
def Live (bd mb pn : Nat) (T : xT) (o so f : Nat → Int32) : Prop := 1 ≤ mb ∧ Sim mb pn T o so f ∧ o 11 = 0 ∧ tOK mb pn T ∧ Wok bd mb pn T
def Run (bd mb pn : Nat) (T : xT) (o so f : Nat → Int32) : Prop := (mb = 0 ∧ pn = 0 ∧ T 0 1 = f 0 ∧ T 0 2 = nI 0 ∧ T 0 3 = nI 0 ∧ o 8 = nI 0 ∧ o 9 = nI 0 ∧ o 11 = 0) ∨ Live bd mb pn T o so f
theorem Live.oeq {mb pn : Nat} {T : xT} {o o' so f : Nat → Int32} (h : Live bd mb pn T o so f) (e : oEq o' o) : Live bd mb pn T o' so f := ⟨h.1, h.2.1.oeq e, e.2.2.2.trans h.2.2.1, h.2.2.2⟩
theorem Live.ag {mb pn : Nat} {T : xT} {o so f f' : Nat → Int32} (h : Live bd mb pn T o so f) (e : ag f' f) : Live bd mb pn T o so f' := ⟨h.1, h.2.1.ag h.2.2.2.1.mb h.2.2.2.1.pn e, h.2.2⟩
theorem Live.so {mb pn : Nat} {T : xT} {o so so' f : Nat → Int32} (h : Live bd mb pn T o so f) (e : ∀ p, p < 8 → so' p = so p) : Live bd mb pn T o so' f := by
  refine ⟨h.1, ?_, h.2.2⟩
  obtain ⟨⟨a1, a2, a3, a4, a5, a6, a7, a8⟩, b⟩ := h.2.1
  have := h.2.2.2.1.pn
  exact ⟨⟨a1, a2, a3, a4, a5, a6, fun p hp => by rw [e p (by omega)]; exact a7 p hp, a8⟩, b⟩
theorem EqT.pot {b mb pn : Nat} {T S : xT} (h : EqT mb pn T S) (hp : Pot b mb pn S) : Pot b mb pn T := fun p hp' => by
  obtain ⟨k, h1, h2, h3⟩ := hp p hp'
  exact ⟨k, h1, (h.2.2.1 15 rfl p hp').trans h2, by rw [cntB_cg mb (fun j hj => h.2.1 8 rfl j hj)]; exact h3⟩
theorem EqT.wok {mb pn : Nat} {T S : xT} (h : EqT mb pn T S) (hw : Wok bd mb pn S) : Wok bd mb pn T := ⟨fun j hj => by rw [h.2.1 6 rfl j hj]; exact hw.1 j hj, fun p hp => by rw [h.2.2.2 p hp]; exact hw.2.1 p hp, h.pot hw.2.2⟩
theorem Wok.cg {mb pn : Nat} {T U : xT} (h : Wok bd mb pn T) (e6 : U 6 = T 6) (e9 : U 9 = T 9) (e8 : U 8 = T 8) (e15 : U 15 = T 15) : Wok bd mb pn U := ⟨fun j hj => by rw [e6]; exact h.1 j hj, fun p hp => by rw [e9]; exact h.2.1 p hp, h.2.2.cg e8 e15⟩
theorem Live.up {bd' mb pn : Nat} {T : xT} {o so f : Nat → Int32} (h : Live bd mb pn T o so f) (hb : bd ≤ bd') : Live bd' mb pn T o so f := ⟨h.1, h.2.1, h.2.2.1, h.2.2.2.1, h.2.2.2.2.1, h.2.2.2.2.2.1, h.2.2.2.2.2.2.le (by omega)⟩
theorem Run.up {bd' mb pn : Nat} {T : xT} {o so f : Nat → Int32} (h : Run bd mb pn T o so f) (hb : bd ≤ bd') : Run bd' mb pn T o so f := h.imp id (fun l => l.up hb)
theorem EqT.live {mb pn : Nat} {T S : xT} {o so f : Nat → Int32} (h : EqT mb pn T S) (hl : Live bd mb pn S o so f) : Live bd mb pn T o so f := ⟨hl.1, h.sim hl.2.1, hl.2.2.1, h.ok hl.2.2.2.1, h.wok hl.2.2.2.2⟩
theorem Live.like {mb pn : Nat} {T : xT} {o so f : Nat → Int32} (h : Live bd mb pn T o so f) (U : xT) : Live bd mb pn (tLike U T) o so f := (like_eqT h.2.2.2.1.mb h.2.2.2.1.pn U T).live h
theorem Live.ok {mb pn : Nat} {T : xT} {o so f : Nat → Int32} (h : Live bd mb pn T o so f) : tOK mb pn T := h.2.2.2.1
theorem Live.sim {mb pn : Nat} {T : xT} {o so f : Nat → Int32} (h : Live bd mb pn T o so f) : Sim mb pn T o so f := h.2.1
theorem Run.oeq {mb pn : Nat} {T : xT} {o o' so f : Nat → Int32} (h : Run bd mb pn T o so f) (e : oEq o' o) : Run bd mb pn T o' so f := by
  rcases h with ⟨a1, a2, a3, a4, a5, a6, a7, a8⟩ | h
  · exact Or.inl ⟨a1, a2, a3, a4, a5, e.2.1.trans a6, e.2.2.1.trans a7, e.2.2.2.trans a8⟩
  · exact Or.inr (h.oeq e)
theorem Run.c {mb pn : Nat} {T : xT} {o so f : Nat → Int32} (h : Run bd mb pn T o so f) : cSt T mb pn := by
  rcases h with ⟨rfl, rfl, a3, a4, a5, a6⟩ | h
  · exact ⟨a4, a5, Or.inl ⟨rfl, rfl⟩⟩
  · exact ⟨h.ok.e2, h.ok.e3, Or.inr ⟨h.1, h.ok⟩⟩
theorem Run.r {mb pn : Nat} {T S : xT} (h : Run bd mb pn T (S 0) (S 11) (S 13)) : rSt S mb pn := by
  rcases h with ⟨rfl, rfl, a3, a4, a5, a6, a7, a8⟩ | h
  · exact ⟨a6, a7, Or.inl ⟨rfl, rfl⟩⟩
  · exact ⟨h.sim.1.2.2.1, h.sim.1.2.2.2.2.1, Or.inr ⟨h.1, _, h.ok, h.sim⟩⟩
theorem Run.m {mb pn m : Nat} {T : xT} {o so f : Nat → Int32} (h : Run bd mb pn T o so f) (hm : m < mb) : Live bd mb pn T o so f := by
  rcases h with ⟨rfl, rfl, a3⟩ | h
  · exact absurd hm (by omega)
  · exact h
theorem Run.p {mb pn m : Nat} {T : xT} {o so f : Nat → Int32} (h : Run bd mb pn T o so f) (hm : m < pn) : Live bd mb pn T o so f := by
  rcases h with ⟨rfl, rfl, a3⟩ | h
  · exact absurd hm (by omega)
  · exact h
theorem Run.z {mb pn : Nat} {T : xT} {o so f : Nat → Int32} (h : Run bd mb pn T o so f) (hm : ¬ nI pn = 0) : Live bd mb pn T o so f := by
  rcases h with ⟨rfl, rfl, a3⟩ | h
  · exact absurd rfl hm
  · exact h
def RRow (R S : xT) : Prop := szOK (S 2) ∧ (∀ r, r < 8 → R 3 r = S 2 r) ∧ (∀ r, r < 8 → ¬ R 3 r = -1 → R 2 r = S 1 r ∧ ∃ l, l ≤ 2 ∧ S 1 r = nI l) ∧ ∀ r k j, r < 8 → R 3 r = nI k → k ≤ 40 → j < k → R (10 + r) j = S 3 (40 * r + j)
def RTape (U S : xT) : Prop := ∃ n, n ≤ 110 ∧ U 0 1 = nI n ∧ S 0 5 = nI n ∧ ∀ j, j < n → U 1 j = S 5 j ∧ ¬ U 1 j = -1
def RTrc (A S : xT) : Prop := ∃ k, k ≤ 16 ∧ A 0 1 = nI k ∧ S 0 20 = nI k ∧ ∀ j, j < k → A 1 j = S 20 j
def iO (S : xT) (k : Nat) : Nat → Int32 := fun q => if q = 7 then S 16 (78 * k) else if q = 8 then S 16 (78 * k + 1) else if q = 9 then S 16 (78 * k + 2) else 0
def RImg (bd : Nat) (T S : xT) (k : Nat) : Prop := (S 17 k = 0 ∧ T 0 3 = 0) ∨ (¬ S 17 k = 0 ∧ ∃ mb pn, Live bd mb pn T (iO S k) (fun j => S 16 (78 * k + 3 + j)) (fun j => S 16 (78 * k + 11 + j)))
def RAct (bd : Nat) (C : xM) (S : xT) (mb pn : Nat) : Prop := ∃ nx mn, nx < 24 ∧ mn ≤ 24 ∧ C 5 0 1 = nI nx ∧ C 5 0 2 = nI mn ∧ S 0 14 = nI mn ∧ ∀ i, i < mn → Live bd mb pn (C (6 + (nx + 24 - mn + i) % 24)) (S 0) (S 11) (fun j => S 14 (67 * i + j))
def Rl (bd : Nat) (Y : xY) (G : xG) (C : xM) (S : xT) : Prop := xSt Y G ∧ RRow (C 1) S ∧ RTape (C 2) S ∧ (C 0 0 8 = S 0 6 ∧ C 0 0 9 = S 0 3) ∧ RTrc (C 32) S ∧ (∀ k, k < 2 → RImg bd (C (33 + k)) S k) ∧ ∃ mb pn, Run bd mb pn (C 3) (S 0) (S 11) (S 13) ∧ RAct bd C S mb pn
theorem Rl.up {bd' : Nat} {Y : xY} {G : xG} {C : xM} {S : xT} (h : Rl bd Y G C S) (hb : bd ≤ bd') : Rl bd' Y G C S := by
  obtain ⟨a1, a2, a3, a4, a5, a6, mb, pn, a7, nx, mn, b1, b2, b3, b4, b5, b6⟩ := h
  refine ⟨a1, a2, a3, a4, a5, fun k hk => ?_, mb, pn, a7.up hb, nx, mn, b1, b2, b3, b4, b5, fun i hi => (b6 i hi).up hb⟩
  rcases a6 k hk with q | ⟨q, mb', pn', l⟩
  · exact Or.inl q
  · exact Or.inr ⟨q, mb', pn', l.up hb⟩
theorem RRow.cg {R S S2 : xT} (h : RRow R S) (h1 : S2 1 = S 1) (h2 : S2 2 = S 2) (h3 : S2 3 = S 3) : RRow R S2 := by unfold RRow at *; rw [h1, h2, h3]; exact h
theorem RTape.cg {U S S2 : xT} (h : RTape U S) (h1 : S2 0 5 = S 0 5) (h2 : S2 5 = S 5) : RTape U S2 := by unfold RTape at *; rw [h1, h2]; exact h
theorem RTrc.cg {U S S2 : xT} (h : RTrc U S) (h1 : S2 0 20 = S 0 20) (h2 : S2 20 = S 20) : RTrc U S2 := by unfold RTrc at *; rw [h1, h2]; exact h
theorem RImg.cg {T S S2 : xT} {k : Nat} (h : RImg bd T S k) (h1 : S2 16 = S 16) (h2 : S2 17 = S 17) : RImg bd T S2 k := by unfold RImg iO at *; rw [h1, h2]; exact h
theorem RAct.cg {C C2 : xM} {S S2 : xT} {mb pn : Nat} (h : RAct bd C S mb pn) (hC : ∀ r, 5 ≤ r → r < 30 → C2 r = C r) (h1 : S2 0 14 = S 0 14) (h2 : oEq (S2 0) (S 0)) (h3 : S2 11 = S 11) (h4 : S2 14 = S 14) : RAct bd C2 S2 mb pn := by
  obtain ⟨nx, mn, a1, a2, a3, a4, a5, a6⟩ := h
  refine ⟨nx, mn, a1, a2, by rw [hC 5 (by omega) (by omega)]; exact a3, by rw [hC 5 (by omega) (by omega)]; exact a4, h1.trans a5, fun i hi => ?_⟩
  rw [hC _ (by omega) (by omega), h3, h4]
  exact (a6 i hi).oeq h2
/-- the reference's own stays where it matters; a finding may change -/
theorem Rl.st {Y : xY} {G G2 : xG} {C C2 : xM} {S S2 : xT} (h : Rl bd Y G C S) (hG : xSt Y G2) (hC : ∀ r, r ≠ 0 → r ≠ 30 → r ≠ 31 → r ≠ 40 → C2 r = C r) (hk : ∀ c, c ≠ 0 → c ≠ 18 → c ≠ 19 → c ≠ 28 → c ≠ 29 → c ≠ 30 → c ≠ 31 → c ≠ 32 → S2 c = S c) (hk2 : ∀ k, k < 21 → k ≠ 3 → S2 0 k = S 0 k) (h8 : C2 0 0 8 = C 0 0 8) (h9 : C2 0 0 9 = S2 0 3) : Rl bd Y G2 C2 S2 := by
  obtain ⟨a1, a2, a3, a4, a5, a6, mb, pn, a7, a8⟩ := h
  have ho : oEq (S2 0) (S 0) := ⟨hk2 7 (by decide) (by decide), hk2 8 (by decide) (by decide), hk2 9 (by decide) (by decide), hk2 11 (by decide) (by decide)⟩
  have hc : ∀ c, c < 18 ∨ c = 20 → c ≠ 0 → S2 c = S c := fun c h1 h2 => hk c h2 (by omega) (by omega) (by omega) (by omega) (by omega) (by omega) (by omega)
  refine ⟨hG, ?_, ?_, ⟨?_, h9⟩, ?_, ?_, mb, pn, ?_, ?_⟩
  · rw [hC 1 (by decide) (by decide) (by decide) (by decide)]
    exact a2.cg (hc 1 (by decide) (by decide)) (hc 2 (by decide) (by decide)) (hc 3 (by decide) (by decide))
  · rw [hC 2 (by decide) (by decide) (by decide) (by decide)]
    exact a3.cg (hk2 5 (by decide) (by decide)) (hc 5 (by decide) (by decide))
  · rw [h8, hk2 6 (by decide) (by decide)]
    exact a4.1
  · rw [hC 32 (by decide) (by decide) (by decide) (by decide)]
    exact a5.cg (hk2 20 (by decide) (by decide)) (hc 20 (by decide) (by decide))
  · intro k h
    rw [hC (33 + k) (by omega) (by omega) (by omega) (by omega)]
    exact (a6 k h).cg (hc 16 (by decide) (by decide)) (hc 17 (by decide) (by decide))
  · rw [hC 3 (by decide) (by decide) (by decide) (by decide), hc 11 (by decide) (by decide), hc 13 (by decide) (by decide)]
    exact a7.oeq ho
  · exact a8.cg (fun r h1 h2 => hC r (by omega) (by omega) (by omega) (by omega)) (hk2 14 (by decide) (by decide)) ho (hc 11 (by decide) (by decide)) (hc 14 (by decide) (by decide))
theorem Rl.stay {Y : xY} {G : xG} {C C2 : xM} {S2 : xT} (h : Rl bd Y G C (C 40)) (hC : cStay C C2) (hk : rKeep (C2 40) S2) : Rl bd Y G (va_up C2 40 S2) (va_up C2 40 S2 40) := by
  have e40 : C2 40 = C 40 := hC 40 (by decide) (by decide)
  rw [e40] at hk
  rw [va_up_eq]
  refine h.st h.1 (fun r h0 h1 h2 h3 => by rw [va_up_no _ _ h3]; exact hC r h1 h2) hk.1 (fun k h1 _ => hk.2 k h1) ?_ ?_
  · rw [va_up_no _ _ (by decide), hC 0 (by decide) (by decide)]
  · rw [va_up_no _ _ (by decide), hC 0 (by decide) (by decide), hk.2 3 (by decide)]
    exact h.2.2.2.1.2
/-- the two calls of one turn of the law: the same answer, and all is side by side then -/
def Both (bd d : Nat) (c6 : ByteArray) (n6 : Nat) (l6 : List (Option xAV)) (c7 : ByteArray) (n7 : Nat) (l7 : List (Option xAV)) (Y : xY) (G : xG) (N : xM) : Prop :=
  V RX6 false c6 n6 (some .int) none d (0, 0) 0 l6 [] Y G N (fun r Y1 G1 N1 => Y1 = Y ∧ V RX7 false c7 n7 (some .int) none d (0, 0) 0 l7 [] Y G1 N1 (fun r2 Y2 G2 N2 => Y2 = Y ∧ r2 = r ∧ (∃ v, r = some (xI v)) ∧ Rl bd Y G2 N2 (N2 40)))
section BB
variable {Y : xY} {G : xG} {N : xM} {a z y x w : Int32}
theorem b_fault (h : Rl bd Y G N (N 40)) : Both bd 16 cX6_fault 1 [some (xR 0 0)] cX7_fault 1 [some (xR 40 0)] Y G N := by
  refine kX6_fault h.1 ⟨rfl, V_in1 40 (kX7_fault h.1.mo ⟨rfl, by rw [h.2.2.2.1.1], ⟨_, rfl⟩, h.stay (cStay.rf _) (rKeep.rf _)⟩)⟩
theorem b_status (h : Rl bd Y G N (N 40)) : Both bd 16 cX6_status 1 [some (xR 0 0)] cX7_status 1 [some (xR 40 0)] Y G N := by
  refine kX6_status h.1 ⟨rfl, V_in1 40 (kX7_status h.1.mo ⟨rfl, by rw [h.2.2.2.1.2], ⟨_, rfl⟩, h.stay (cStay.rf _) (rKeep.rf _)⟩)⟩
theorem b_ahead (h : Rl bd Y G N (N 40)) : Both bd 16 cX6_ahead 3 [some (xR 0 0), some (xI a), some (xI z)] cX7_ahead 3 [some (xR 40 0), some (xI a), some (xI z)] Y G N := by
  obtain ⟨mb, pn, hrun, -⟩ := h.2.2.2.2.2.2
  refine kX6_ahead (d := 11) h.1 rfl hrun.c (v := rGo (N 40 0) (N 40 11) mb z.toNatClampNeg (N 40 13) (49 + a.toNatClampNeg)) ?_ (fun N2 h2 => ⟨rfl, ?_⟩)
  · rintro m k rfl hm rfl hk - U
    rw [nI_clamp (by omega), nI_clamp (by have := hrun.c.b6; omega)]
    exact (runOn_sim k ((hrun.m hm).like U).ok ((hrun.m hm).like U).sim).m (c := 8) rfl hm
  · have e40 : N2 40 = N 40 := h2 40 (by decide) (by decide)
    refine V_in1 40 (kX7_ahead (d := 12) h.1.mo (mb := mb) (pn := pn) (by rw [e40]; exact hrun.r) (v := rGo (N 40 0) (N 40 11) mb z.toNatClampNeg (N 40 13) (49 + a.toNatClampNeg)) ?_ (fun S2 h3 => ⟨rfl, rfl, ⟨_, rfl⟩, h.stay h2 h3⟩))
    rw [e40]
    rintro m k rfl hm rfl hk f hf
    rw [nI_clamp (by omega), nI_clamp (by have := hrun.c.b6; omega)]
    exact ((runOn_sim k (hrun.m hm).ok ((hrun.m hm).ag hf).sim).m (c := 8) rfl hm).symm.trans ((runOn_sim k (hrun.m hm).ok (hrun.m hm).sim).m (c := 8) rfl hm)
end BB
end BD
