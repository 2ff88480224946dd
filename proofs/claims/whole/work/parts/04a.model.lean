/-! THE REFERENCE: region 40; cell 0 the object, cell k + 1 the row of field k -/
def xMk : Nat → Option (Nat × Nat)
  | 0 => some (0, 7)
  | 1 => some (1, 8)
  | 2 => some (1, 8)
  | 3 => some (1, 320)
  | 5 => some (1, 110)
  | 11 => some (1, 8)
  | 13 => some (1, 67)
  | 14 => some (1, 1608)
  | 16 => some (1, 156)
  | 17 => some (4, 2)
  | 18 => some (1, 6)
  | 19 => some (1, 67)
  | 20 => some (1, 16)
  | 28 => some (1, 8)
  | 29 => some (1, 67)
  | 30 => some (1, 6)
  | 31 => some (1, 256)
  | 32 => some (1, 256)
  | _ => none
def xMo (Y : xY) (G : xG) : Prop := (∀ c k, xMk c = some k → ((40, c), k) ∈ Y) ∧ ∀ k v, xMk (k + 1) = some v → G 40 0 k = some (40, k + 1)
section XR
variable {own : String} {ini : Bool} {cc : ByteArray} {nL : Nat} {ret : Option FieldType} {X : Option (Nat × (Nat → Int32))} {d : Nat} {b : Nat × Nat} {pc : Nat} {loc lr : List (Option xAV)} {st : List xAV} {Y : xY} {G : xG} {N : xM} {S : xT} {f : Nat → Int32} {Q : Option xAV → xY → xG → xM → Prop}
theorem V_sub (r c : Nat) (k : V own ini cc nL ret X d b pc loc st Y G (va_up N r (va_up S c (S c))) Q) : V own ini cc nL ret X d b pc loc st Y G (va_up N r S) Q := by rw [va_up_id] at k; exact k
theorem V_getIs {r c ci k0 idx : Nat} (hd : decode cc pc = .ok (.getfield idx, 3)) (hf : xFl0 own idx ci k0 false) (hY : ((r, 0), (0, ci)) ∈ Y) (hn : 0 ≠ c) (k : V own ini cc nL ret X d b (pc + 3) loc (xI (S 0 k0) :: st) Y G (va_up N r (va_up S c f)) Q) : V own ini cc nL ret X d b pc loc (xR r 0 :: st) Y G (va_up N r (va_up S c f)) Q := V_getIr hd hf hY (by rw [va_up_no _ _ hn]; exact k)
theorem V_iac {r c n j : Nat} (hd : decode cc pc = .ok (.iaload, 1)) (hY : ((r, c), (1, n)) ∈ Y) (hj : j < n) (hn : n < 2 ^ 31) (k : V own ini cc nL ret X d b (pc + 1) loc (xI (f j) :: st) Y G (va_up N r (va_up S c f)) Q) : V own ini cc nL ret X d b pc loc (xI (nI j) :: xR r c :: st) Y G (va_up N r (va_up S c f)) Q := V_iar hd hY hj hn (by rw [va_up_eq]; exact k)
theorem V_ian {r c a n j : Nat} (hd : decode cc pc = .ok (.iaload, 1)) (hY : ((r, a), (1, n)) ∈ Y) (ha : a ≠ c) (hj : j < n) (hn : n < 2 ^ 31) (k : V own ini cc nL ret X d b (pc + 1) loc (xI (S a j) :: st) Y G (va_up N r (va_up S c f)) Q) : V own ini cc nL ret X d b pc loc (xI (nI j) :: xR r a :: st) Y G (va_up N r (va_up S c f)) Q := V_iar hd hY hj hn (by rw [va_up_no _ _ ha]; exact k)
theorem V_iasc {r c n j : Nat} {x : Int32} (hd : decode cc pc = .ok (.iastore, 1)) (hY : ((r, c), (1, n)) ∈ Y) (hj : j < n) (hn : n < 2 ^ 31) (k : V own ini cc nL ret X d b (pc + 1) loc st Y G (va_up N r (va_up S c (upd f j x))) Q) : V own ini cc nL ret X d b pc loc (xI x :: xI (nI j) :: xR r c :: st) Y G (va_up N r (va_up S c f)) Q := V_iasr hd hY hj hn (by rw [va_up_eq, bx_uu]; exact k)
end XR
