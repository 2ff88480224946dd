/-! TRACKS: a region r; cell 0 the object, cell k + 1 the row of field k -/
def xTk : Nat → Option (Nat × Nat)
  | 0 => some (0, 5)
  | 6 => some (1, 6)
  | 7 => some (1, 6)
  | 8 => some (1, 6)
  | 9 => some (1, 8)
  | 10 => some (1, 8)
  | 11 => some (1, 8)
  | 12 => some (1, 8)
  | 13 => some (1, 8)
  | 14 => some (1, 8)
  | 15 => some (1, 8)
  | _ => none
def xTr (Y : xY) (G : xG) (r : Nat) : Prop := (∀ c k, xTk c = some k → ((r, c), k) ∈ Y) ∧ ∀ k, 5 ≤ k → k < 15 → G r 0 k = some (r, k + 1)
abbrev xT : Type := Nat → Nat → Int32
theorem xbool {v : Int32} (h : v = 0 ∨ v = 1) : narrow .boolean (.int v) = .int v := by rcases h with rfl | rfl <;> rfl
theorem xite01 (p : Prop) {h : Decidable p} : (@ite Int32 p h 1 0) = 0 ∨ (@ite Int32 p h 1 0) = 1 := by by_cases h : p <;> simp [h]
theorem xp_up (N : xM) (r c : Nat) (T : xT) (f : Nat → Int32) : xp (va_up N r T) r c f = va_up N r (va_up T c f) := by
  unfold xp
  rw [bx_uu, va_up_eq]
section XR
variable {own : String} {ini : Bool} {cc : ByteArray} {nL : Nat} {ret : Option FieldType} {X : Option (Nat × (Nat → Int32))} {d : Nat} {b : Nat × Nat} {pc : Nat} {loc lr : List (Option xAV)} {st : List xAV} {Y : xY} {G : xG} {N : xM} {T : xT} {Q : Option xAV → xY → xG → xM → Prop}
theorem V_reg (r : Nat) (k : V own ini cc nL ret X d b pc loc st Y G (va_up N r (N r)) Q) : V own ini cc nL ret X d b pc loc st Y G N Q := by rw [va_up_id] at k; exact k
theorem V_getIr {r c ci k0 idx : Nat} (hd : decode cc pc = .ok (.getfield idx, 3)) (hf : xFl0 own idx ci k0 false) (hY : ((r, c), (0, ci)) ∈ Y) (k : V own ini cc nL ret X d b (pc + 3) loc (xI (T c k0) :: st) Y G (va_up N r T) Q) : V own ini cc nL ret X d b pc loc (xR r c :: st) Y G (va_up N r T) Q := V_getI hd hf hY (by rw [va_up_eq]; exact k)
theorem V_putIr {r c ci k0 idx : Nat} {x : Int32} (hd : decode cc pc = .ok (.putfield idx, 3)) (hf : xFl own idx ci k0 false false) (hY : ((r, c), (0, ci)) ∈ Y) (k : V own ini cc nL ret X d b (pc + 3) loc st Y G (va_up N r (va_up T c (upd (T c) k0 x))) Q) : V own ini cc nL ret X d b pc loc (xI x :: xR r c :: st) Y G (va_up N r T) Q := V_putI hd hf hY (by rw [xp_up, va_up_eq]; exact k)
theorem V_iar {r c n j : Nat} (hd : decode cc pc = .ok (.iaload, 1)) (hY : ((r, c), (1, n)) ∈ Y) (hj : j < n) (hn : n < 2 ^ 31) (k : V own ini cc nL ret X d b (pc + 1) loc (xI (T c j) :: st) Y G (va_up N r T) Q) : V own ini cc nL ret X d b pc loc (xI (nI j) :: xR r c :: st) Y G (va_up N r T) Q := V_ia hd hY hj hn (by rw [va_up_eq]; exact k)
theorem V_iasr {r c n j : Nat} {x : Int32} (hd : decode cc pc = .ok (.iastore, 1)) (hY : ((r, c), (1, n)) ∈ Y) (hj : j < n) (hn : n < 2 ^ 31) (k : V own ini cc nL ret X d b (pc + 1) loc st Y G (va_up N r (va_up T c (upd (T c) j x))) Q) : V own ini cc nL ret X d b pc loc (xI x :: xI (nI j) :: xR r c :: st) Y G (va_up N r T) Q := V_ias hd hY hj hn (by rw [xp_up, va_up_eq]; exact k)
end XR
