/-- what no tick changes: weights, sorts, whither -/
theorem tSwing_k (T : xT) (p : Nat) {c : Nat} (h : c ≠ 10) : tSwing T p c = T c := tSwing_ne T p h
theorem tCnt_k (T : xT) (m p : Nat) {c : Nat} (h14 : c ≠ 14) (h15 : c ≠ 15) : tCnt T m p c = T c := by unfold tCnt; rw [va_up_no _ _ h15, va_up_no _ _ h14]
theorem tLat_k (T : xT) (p : Nat) {c : Nat} (h : c ≠ 10) : tLat T p c = T c := by
  unfold tLat
  split
  · exact tSwing_ne T p h
  · rfl
theorem tRel_k (T : xT) (m p : Nat) {c : Nat} (h8 : c ≠ 8) (h13 : c ≠ 13) : tRel T m p c = T c := by
  unfold tRel tRel2 tRel3
  rw [va_up_no _ _ h13, tSend_ne _ _ _ h8, tSend_ne _ _ _ h8]
theorem tHold_k (T : xT) (m p : Nat) {c : Nat} (h8 : c ≠ 8) (h13 : c ≠ 13) : tHold T m p c = T c := by unfold tHold; rw [va_up_no _ _ h8, va_up_no _ _ h13]
theorem tL2_k (T : xT) (m p : Nat) {c : Nat} (h8 : c ≠ 8) (h10 : c ≠ 10) (h13 : c ≠ 13) : tL2 T m p c = T c := by
  unfold tL2
  repeat' split
  all_goals first | rfl | (simp only [tSwing_ne _ _ h10, tLat_k _ _ h10, tSend_ne _ _ _ h8, tRel_k _ _ _ h8 h13, tHold_k _ _ _ h8 h13]; done)
theorem tIn_k (T : xT) {c : Nat} (h8 : c ≠ 8) : ∀ n, tIn T n c = T c
  | 0 => rfl
  | n + 1 => by rw [tIn, tIn1_ne _ _ h8, tIn_k T h8 n]
theorem tGo_k (mv : Int32) (T : xT) {c : Nat} (h8 : c ≠ 8) (h10 : c ≠ 10) (h13 : c ≠ 13) (h14 : c ≠ 14) (h15 : c ≠ 15) : ∀ n, tGo mv T n c = T c
  | 0 => rfl
  | n + 1 => by
    rw [tGo]
    unfold tGo1
    split
    · exact tGo_k mv T h8 h10 h13 h14 h15 n
    · unfold tLeave
      rw [tL2_k _ _ _ h8 h10 h13, tCnt_k _ _ _ h14 h15, tGo_k mv T h8 h10 h13 h14 h15 n]
theorem tPass_k (T : xT) (mb : Nat) {c : Nat} (h0 : c ≠ 0) (h8 : c ≠ 8) (h10 : c ≠ 10) (h13 : c ≠ 13) (h14 : c ≠ 14) (h15 : c ≠ 15) : tPass T mb c = T c := by
  unfold tPass tTick
  rw [va_up_no _ _ h0, tGo_k _ _ h8 h10 h13 h14 h15, tIn_k _ h8]
theorem tRunOn_k (mb : Nat) {c : Nat} (h0 : c ≠ 0) (h8 : c ≠ 8) (h10 : c ≠ 10) (h13 : c ≠ 13) (h14 : c ≠ 14) (h15 : c ≠ 15) : ∀ (n : Nat) (T : xT), tRunOn mb n T c = T c
  | 0, _ => rfl
  | n + 1, T => by
    rw [tRunOn]
    split
    · rw [tRunOn_k mb h0 h8 h10 h13 h14 h15 n, tPass_k T mb h0 h8 h10 h13 h14 h15]
    · rfl
/-! HOW MUCH CAN YET GO OVER A PIECE: a marble goes over it once a throw -/
def lev (v : Int32) : Nat := if v.toNatClampNeg = 10 then 0 else if v.toNatClampNeg < 8 then v.toNatClampNeg else if 20 ≤ v.toNatClampNeg then v.toNatClampNeg - 19 else 9
theorem lev_nI {q : Nat} (h : q < 2 ^ 31) : lev (nI q) = if q = 10 then 0 else if q < 8 then q else if 20 ≤ q then q - 19 else 9 := by
  unfold lev
  rw [nI_clamp h]
def cntB (f : Nat → Int32) (p : Nat) : Nat → Nat
  | 0 => 0
  | j + 1 => cntB f p j + (if lev (f j) ≤ p then 1 else 0)
theorem cntB_le {f g : Nat → Int32} {p : Nat} : ∀ n, (∀ j, j < n → lev (f j) ≤ lev (g j)) → cntB g p n ≤ cntB f p n
  | 0, _ => Nat.le_refl _
  | n + 1, h => by
    have ih := cntB_le (p := p) n (fun j hj => h j (by omega))
    have hn := h n (by omega)
    rw [cntB, cntB]
    by_cases c : lev (g n) ≤ p
    · rw [if_pos c, if_pos (by omega)]; omega
    · rw [if_neg c]; exact Nat.add_le_add ih (Nat.zero_le _)
theorem cntB_lt {f g : Nat → Int32} {p m : Nat} : ∀ n, (∀ j, j < n → lev (f j) ≤ lev (g j)) → m < n → lev (f m) ≤ p → p < lev (g m) → cntB g p n + 1 ≤ cntB f p n
  | 0, _, h, _, _ => absurd h (by omega)
  | n + 1, h, hm, h1, h2 => by
    rw [cntB, cntB]
    by_cases e : m = n
    · subst e
      have ih := cntB_le (p := p) m (fun j hj => h j (by omega))
      rw [if_neg (by omega), if_pos h1]; omega
    · have ih := cntB_lt n (fun j hj => h j (by omega)) (show m < n by omega) h1 h2
      have hn := h n (by omega)
      by_cases c : lev (g n) ≤ p
      · rw [if_pos c, if_pos (by omega)]; omega
      · rw [if_neg c]
        have := Nat.add_le_add ih (Nat.zero_le (if lev (f n) ≤ p then 1 else 0))
        omega
theorem cntB_pos {f : Nat → Int32} {p m : Nat} : ∀ n, m < n → lev (f m) ≤ p → 1 ≤ cntB f p n
  | 0, h, _ => absurd h (by omega)
  | n + 1, h, h1 => by
    rw [cntB]
    by_cases e : m = n
    · subst e
      rw [if_pos h1]; omega
    · have ih := cntB_pos n (show m < n by omega) h1
      exact Nat.le_trans ih (Nat.le_add_right _ _)
theorem cntB_cg {f g : Nat → Int32} {p : Nat} : ∀ n, (∀ j, j < n → f j = g j) → cntB f p n = cntB g p n
  | 0, _ => rfl
  | n + 1, h => by rw [cntB, cntB, cntB_cg n (fun j hj => h j (by omega)), h n (by omega)]
theorem cntB_up (f : Nat → Int32) (m : Nat) (v : Int32) (p : Nat) : ∀ n, cntB (upd f m v) p n ≤ cntB f p n + 1
  | 0 => Nat.zero_le _
  | n + 1 => by
    rw [cntB, cntB]
    by_cases e : n = m
    · subst e
      rw [cntB_cg (g := f) n (fun j hj => upd_no _ _ (by omega))]
      have h1 : (if lev (upd f n v n) ≤ p then 1 else 0) ≤ 1 := by split <;> omega
      have h2 : 0 ≤ (if lev (f n) ≤ p then 1 else 0) := Nat.zero_le _
      omega
    · rw [upd_no _ _ e]
      have := cntB_up f m v p n
      omega
theorem cntB_n (f : Nat → Int32) (p : Nat) : ∀ n, cntB f p n ≤ n
  | 0 => Nat.le_refl _
  | n + 1 => by
    rw [cntB]
    have := cntB_n f p n
    have h1 : (if lev (f n) ≤ p then 1 else 0) ≤ 1 := by split <;> omega
    omega
/-- what went over a piece, and nine for each that may yet go over it -/
def Pot (bd mb pn : Nat) (T : xT) : Prop := ∀ p, p < pn → ∃ k, k ≤ 9999 ∧ T 15 p = nI k ∧ k + 9 * cntB (T 8) p mb ≤ bd
def W9 (mb : Nat) (T : xT) : Prop := ∀ j, j < mb → ∃ w, 1 ≤ w ∧ w ≤ 9 ∧ T 6 j = nI w
theorem Pot.cg {bd mb pn : Nat} {T U : xT} (h : Pot bd mb pn T) (e8 : U 8 = T 8) (e15 : U 15 = T 15) : Pot bd mb pn U := by
  unfold Pot at *
  rw [e8, e15]
  exact h
theorem Pot.le {bd bd' mb pn : Nat} {T : xT} (h : Pot bd mb pn T) (hb : bd ≤ bd') : Pot bd' mb pn T := fun p hp => by
  obtain ⟨k, h1, h2, h3⟩ := h p hp
  exact ⟨k, h1, h2, by omega⟩
theorem W9.cg {mb : Nat} {T U : xT} (h : W9 mb T) (e : U 6 = T 6) : W9 mb U := by
  unfold W9 at *
  rw [e]
  exact h
/-- each is as far down as it was, or further -/
def Dn (mb : Nat) (T U : xT) : Prop := ∀ j, j < mb → lev (T 8 j) ≤ lev (U 8 j)
theorem Dn.tr {mb : Nat} {T U W : xT} (h : Dn mb T U) (h2 : Dn mb U W) : Dn mb T W := fun j hj => Nat.le_trans (h j hj) (h2 j hj)
theorem Dn.put {mb m : Nat} {T : xT} {v : Int32} (h : lev (T 8 m) ≤ lev v) : Dn mb T (va_up T 8 (upd (T 8) m v)) := by
  intro j hj
  rw [va_up_eq]
  by_cases e : j = m
  · rw [e, upd_eq]; exact h
  · rw [upd_no _ _ e]; exact Nat.le_refl _
theorem Dn.cg {mb : Nat} {T U W : xT} (h : Dn mb T U) (e : W 8 = U 8) : Dn mb T W := by
  intro j hj
  rw [e]
  exact h j hj
theorem Pot.dn {bd mb pn : Nat} {T U : xT} (h : Pot bd mb pn T) (e15 : U 15 = T 15) (hd : Dn mb T U) : Pot bd mb pn U := by
  intro p hp
  obtain ⟨k, h1, h2, h3⟩ := h p hp
  have := cntB_le (p := p) mb hd
  exact ⟨k, h1, by rw [e15]; exact h2, by omega⟩
theorem lev_to {T : xT} {pn p q : Nat} (h3 : T 0 3 = nI pn) (hp8 : pn ≤ 8) (hp : p < 8) (hq : p < q) (hq9 : q ≤ 9) : p < lev (tTo T (nI q)) := by
  unfold tTo
  rw [h3]
  by_cases c : nI q < nI pn
  · rw [if_pos c, lev_nI (by omega)]
    have := (nI_ltI (by omega) (by omega)).mp c
    rw [if_neg (by omega), if_pos (by omega)]
    exact hq
  · rw [if_neg c]
    by_cases c8 : nI 8 ≤ nI q
    · rw [if_pos c8, lev_nI (by omega)]
      have := (nI_leI (by decide) (by omega)).mp c8
      rw [if_neg (by omega), if_neg (by omega), if_neg (by omega)]
      omega
    · rw [if_neg c8, lev_nI (by decide), if_neg (by decide), if_neg (by decide), if_neg (by decide)]
      omega
theorem send_dn {mb pn : Nat} {T : xT} (h2 : T 0 2 = nI mb) (h3 : T 0 3 = nI pn) (hm6 : mb ≤ 6) (hp8 : pn ≤ 8) {m p q : Nat} (hm : m < mb) (hp : p < pn) (hl : lev (T 8 m) ≤ p + 1) (hq : p < q) (hq9 : q ≤ 9) : Dn mb T (tSend T (nI m) (nI q)) ∧ p < lev (tSend T (nI m) (nI q) 8 m) := by
  have h1 := lev_to h3 hp8 (show p < 8 by omega) hq hq9
  rw [tSend_in h2 hm hm6]
  exact ⟨Dn.put (by omega), by rw [va_up_eq, upd_eq]; exact h1⟩
theorem L2_dn {mb pn : Nat} {T : xT} (hk : tOK mb pn T) {m p : Nat} (hm : m < mb) (hp : p < pn) (e : T 8 m = nI p) : Dn mb T (tL2 T m p) ∧ p < lev (tL2 T m p 8 m) := by
  have hpn := hk.pn
  have hmb := hk.mb
  have hl : lev (T 8 m) ≤ p + 1 := by
    rw [e, lev_nI (by omega), if_neg (by omega), if_pos (by omega)]
    omega
  obtain ⟨ql, el, l1, l2⟩ := hk.le p hp
  obtain ⟨qr, er, r1, r2⟩ := hk.ri p hp
  have sl := send_dn hk.e2 hk.e3 hmb hpn hm hp hl l1 l2
  have sr := send_dn hk.e2 hk.e3 hmb hpn hm hp hl r1 r2
  unfold tL2
  rw [el, er]
  split
  · split
    · split
      · exact ⟨sl.1.cg (tSwing_ne _ _ (by decide)), by rw [tSwing_ne _ _ (by decide)]; exact sl.2⟩
      · exact ⟨sr.1.cg (tSwing_ne _ _ (by decide)), by rw [tSwing_ne _ _ (by decide)]; exact sr.2⟩
    · split
      · split
        · exact ⟨sl.1.cg (tLat_k _ _ (by decide)), by rw [tLat_k _ _ (by decide)]; exact sl.2⟩
        · exact ⟨sr.1.cg (tLat_k _ _ (by decide)), by rw [tLat_k _ _ (by decide)]; exact sr.2⟩
      · split
        · split
          · have e8 : tHold T m p 8 = upd (T 8) m (nI (20 + p)) := by
              unfold tHold
              rw [va_up_eq, va_up_no _ _ (by decide)]
            have hv : lev (nI (20 + p)) = p + 1 := by
              rw [lev_nI (by omega), if_neg (by omega), if_neg (by omega), if_pos (by omega)]
              omega
            have h1 : Dn mb T (va_up T 8 (upd (T 8) m (nI (20 + p)))) := Dn.put (by omega)
            exact ⟨h1.cg (e8.trans (va_up_eq _ _ _).symm), by rw [e8, upd_eq, hv]; omega⟩
          · rename_i c4
            rcases hk.ho p hp with c | ⟨m2, hm2, e2, e3⟩
            · exact absurd c c4
            have hne : m ≠ m2 := by
              rintro rfl
              rw [e] at e3
              have := nI_inj (by omega) (by omega) e3
              omega
            unfold tRel tRel2 tRel3
            rw [e2, el]
            have hl2 : lev (T 8 m2) ≤ p + 1 := by
              rw [e3, lev_nI (by omega), if_neg (by omega), if_neg (by omega), if_pos (by omega)]
              omega
            have s1 := send_dn hk.e2 hk.e3 hmb hpn hm2 hp hl2 l1 l2
            have e12 : tSend T (nI m2) (nI ql) 12 p = nI qr := by rw [tSend_ne _ _ _ (by decide)]; exact er
            have e8m : tSend T (nI m2) (nI ql) 8 m = T 8 m := by rw [tSend_in hk.e2 hm2 hmb, va_up_eq, upd_no _ _ hne]
            have s2 := send_dn (T := tSend T (nI m2) (nI ql)) (by rw [tSend_ne _ _ _ (by decide)]; exact hk.e2) (by rw [tSend_ne _ _ _ (by decide)]; exact hk.e3) hmb hpn hm hp (by rw [e8m]; exact hl) r1 r2
            rw [e12]
            exact ⟨(s1.1.tr s2.1).cg (va_up_no _ _ (by decide)), by rw [va_up_no _ _ (by decide)]; exact s2.2⟩
        · split
          · split
            · exact sl
            · exact sr
          · split
            · exact sr
            · exact sl
  · exact sl
theorem cnt15 (T : xT) (m p : Nat) : tCnt T m p 15 = upd (T 15) p (if T 15 p + T 6 m < nI 9999 then T 15 p + T 6 m else nI 9999) := by
  unfold tCnt
  rw [va_up_eq, va_up_no _ _ (show (15 : Nat) ≠ 14 by decide), va_up_no _ _ (show (6 : Nat) ≠ 14 by decide)]
theorem cnt14 (T : xT) (m p : Nat) : tCnt T m p 14 = upd (T 14) p (if T 14 p + nI 1 < nI 999 then T 14 p + nI 1 else nI 999) := by
  unfold tCnt
  rw [va_up_no _ _ (show (14 : Nat) ≠ 15 by decide), va_up_eq]
theorem burd {a w : Nat} (ha : a ≤ 9999) (hw : w ≤ 9) : ∃ z, z ≤ 9999 ∧ z ≤ a + w ∧ (a + w ≤ 9999 → z = a + w) ∧ (if nI a + nI w < nI 9999 then nI a + nI w else nI 9999) = nI z := by
  rw [nI_add]
  by_cases c : a + w < 9999
  · exact ⟨a + w, by omega, by omega, fun _ => rfl, if_pos (nI_lt c (by decide))⟩
  · exact ⟨9999, by omega, by omega, fun _ => by omega, if_neg (nI_nlt (by omega) (by omega))⟩
theorem tOK.cnt {mb pn : Nat} {T : xT} (hk : tOK mb pn T) {m p : Nat} (hm : m < mb) (hp : p < pn) : tOK mb pn (tCnt T m p) := (cnt_sim (Sim_of hk) hk hm hp).2
theorem leave_pot {bd mb pn : Nat} {T : xT} (hk : tOK mb pn T) (hW : W9 mb T) (h : Pot bd mb pn T) {m p : Nat} (hm : m < mb) (hp : p < pn) (e : T 8 m = nI p) : Pot bd mb pn (tLeave T m p) := by
  have hpn := hk.pn
  have e8 : tCnt T m p 8 = T 8 := tCnt_k T m p (by decide) (by decide)
  obtain ⟨d1, d2⟩ := L2_dn (hk.cnt hm hp) hm hp (by rw [e8]; exact e)
  have e15 : tLeave T m p 15 = tCnt T m p 15 := tL2_k _ m p (by decide) (by decide) (by decide)
  have hd : Dn mb T (tLeave T m p) := by
    intro j hj
    have := d1 j hj
    rw [e8] at this
    exact this
  have hl : lev (T 8 m) ≤ p := by
    rw [e, lev_nI (by omega), if_neg (by omega), if_pos (by omega)]
    exact Nat.le_refl _
  intro q hq
  obtain ⟨k, h1, h2, h3⟩ := h q hq
  by_cases c : q = p
  · subst c
    obtain ⟨w, w1, w2, w3⟩ := hW m hm
    obtain ⟨z, z1, z2, -, z4⟩ := burd h1 w2
    have := cntB_lt (f := T 8) (g := tLeave T m q 8) (p := q) mb hd hm hl d2
    refine ⟨z, z1, ?_, by omega⟩
    rw [e15, cnt15, upd_eq, h2, w3]
    exact z4
  · have := cntB_le (f := T 8) (g := tLeave T m p 8) (p := q) mb hd
    exact ⟨k, h1, by rw [e15, cnt15, upd_no _ _ c]; exact h2, by omega⟩
theorem in_pot {bd mb pn : Nat} {T : xT} (h : Pot bd mb pn T) : ∀ n, Pot bd mb pn (tIn T n)
  | 0 => h
  | n + 1 => by
    have ih := in_pot h n
    rw [tIn]
    unfold tIn1
    split
    · rename_i c
      split
      · exact ih
      · exact ih.dn (va_up_no _ _ (by decide)) (Dn.put (by rw [c, lev_nI (by decide), lev_nI (by decide)]; decide))
    · exact ih
/-- who is to leave stands on a piece -/
theorem go_at {mb pn : Nat} {T : xT} (hk : tOK mb pn T) {i : Nat} (hi : i < mb) (c : ¬ (tMov T mb >>> (nI i &&& 31)) &&& nI 1 = 0) : ∃ p, p < pn ∧ tGo (tMov T mb) (tIn T mb) i 8 i = nI p := by
  have hmb := hk.mb
  obtain ⟨-, -, a1⟩ := go_sim (Sim_of hk) hk i (by omega)
  obtain ⟨e1, -⟩ := mov_bN (Sim_of hk) hk mb (Nat.le_refl _)
  have hb := bN_get (P := tMv pn T) (n := mb) (i := i) hi (by omega)
  rw [← e1] at hb
  rw [hb] at c
  cases hP : tMv pn T i with
  | true => exact a1 i (Nat.le_refl _) hi hP
  | false => rw [hP] at c; exact absurd rfl c
theorem tOK.go {mb pn : Nat} {T : xT} (hk : tOK mb pn T) {i : Nat} (hi : i ≤ mb) : tOK mb pn (tGo (tMov T mb) (tIn T mb) i) := (go_sim (Sim_of hk) hk i hi).2.1
theorem W9.go {mb : Nat} {T : xT} (h : W9 mb T) (mv : Int32) (i : Nat) : W9 mb (tGo mv (tIn T mb) i) := h.cg (by rw [tGo_k mv _ (by decide) (by decide) (by decide) (by decide) (by decide), tIn_k _ (by decide)])
theorem go_pot {bd mb pn : Nat} {T : xT} (hk : tOK mb pn T) (hW : W9 mb T) (h : Pot bd mb pn T) : ∀ i, i ≤ mb → Pot bd mb pn (tGo (tMov T mb) (tIn T mb) i)
  | 0, _ => in_pot h mb
  | i + 1, hi => by
    have hpn := hk.pn
    have ih := go_pot hk hW h i (by omega)
    rw [tGo]
    unfold tGo1
    split
    · exact ih
    · rename_i c
      obtain ⟨p, hp, ep⟩ := go_at hk (show i < mb by omega) c
      rw [ep, nI_clamp (by omega)]
      exact leave_pot (hk.go (by omega)) (hW.go _ i) ih (by omega) hp ep
theorem pass_pot {bd mb pn : Nat} {T : xT} (hk : tOK mb pn T) (hW : W9 mb T) (h : Pot bd mb pn T) : Pot bd mb pn (tPass T mb) := by
  refine (go_pot hk hW h mb (Nat.le_refl _)).cg ?_ ?_
  · unfold tPass tTick
    exact va_up_no _ _ (by decide)
  · unfold tPass tTick
    exact va_up_no _ _ (by decide)
theorem Pot.throw {bd mb pn : Nat} {T : xT} (h : Pot bd mb pn T) (m : Nat) (w : Int32) : Pot (bd + 9) mb pn (tThrow T m w) := by
  intro p hp
  obtain ⟨k, h1, h2, h3⟩ := h p hp
  have e8 : tThrow T m w 8 = upd (T 8) m (nI 10) := by
    unfold tThrow
    rw [va_up_no _ _ (by decide), va_up_no _ _ (by decide), va_up_eq]
  have e15 : tThrow T m w 15 = T 15 := by
    unfold tThrow
    rw [va_up_no _ _ (by decide), va_up_no _ _ (by decide), va_up_no _ _ (by decide)]
  have := cntB_up (T 8) m (nI 10) p mb
  exact ⟨k, h1, by rw [e15]; exact h2, by rw [e8]; omega⟩
theorem Pot.new {mb pn : Nat} {T : xT} (hm : mb ≤ 6) (h : ∀ p, p < pn → T 15 p = nI 0) : Pot 54 mb pn T := by
  intro p hp
  have := cntB_n (T 8) p mb
  exact ⟨0, by omega, h p hp, by omega⟩
