/-! TWO REGIONS AT ONCE: q under r -/
theorem va_comm {α : Type} (f : Nat → α) {q r : Nat} (h : q ≠ r) (x y : α) : va_up (va_up f q x) r y = va_up (va_up f r y) q x := by
  funext j
  unfold va_up
  by_cases h1 : j = r
  · rw [if_pos h1, if_neg (fun e => h (e.symm.trans h1)), if_pos h1]
  · by_cases h2 : j = q
    · rw [if_neg h1, if_pos h2, if_pos h2]
    · rw [if_neg h1, if_neg h2, if_neg h2, if_neg h1]
section XR
variable {own : String} {ini : Bool} {cc : ByteArray} {nL : Nat} {ret : Option FieldType} {X : Option (Nat × (Nat → Int32))} {d : Nat} {b : Nat × Nat} {pc : Nat} {loc lr : List (Option xAV)} {st : List xAV} {Y : xY} {G : xG} {N : xM} {T U : xT} {Q : Option xAV → xY → xG → xM → Prop} {q r : Nat}
theorem V_comm (hne : q ≠ r) (k : V own ini cc nL ret X d b pc loc st Y G (va_up (va_up N r U) q T) Q) : V own ini cc nL ret X d b pc loc st Y G (va_up (va_up N q T) r U) Q := by rw [va_comm _ hne]; exact k
theorem V_getIq (hne : q ≠ r) {c ci k0 idx : Nat} (hd : decode cc pc = .ok (.getfield idx, 3)) (hf : xFl0 own idx ci k0 false) (hY : ((q, c), (0, ci)) ∈ Y) (k : V own ini cc nL ret X d b (pc + 3) loc (xI (T c k0) :: st) Y G (va_up (va_up N q T) r U) Q) : V own ini cc nL ret X d b pc loc (xR q c :: st) Y G (va_up (va_up N q T) r U) Q := V_getI hd hf hY (by rw [va_up_no _ _ hne, va_up_eq]; exact k)
theorem V_putIq (hne : q ≠ r) {c ci k0 idx : Nat} {x : Int32} (hd : decode cc pc = .ok (.putfield idx, 3)) (hf : xFl own idx ci k0 false false) (hY : ((q, c), (0, ci)) ∈ Y) (k : V own ini cc nL ret X d b (pc + 3) loc st Y G (va_up (va_up N q (va_up T c (upd (T c) k0 x))) r U) Q) : V own ini cc nL ret X d b pc loc (xI x :: xR q c :: st) Y G (va_up (va_up N q T) r U) Q := V_comm hne (V_putIr hd hf hY (V_comm hne.symm k))
theorem V_iaq (hne : q ≠ r) {c n j : Nat} (hd : decode cc pc = .ok (.iaload, 1)) (hY : ((q, c), (1, n)) ∈ Y) (hj : j < n) (hn : n < 2 ^ 31) (k : V own ini cc nL ret X d b (pc + 1) loc (xI (T c j) :: st) Y G (va_up (va_up N q T) r U) Q) : V own ini cc nL ret X d b pc loc (xI (nI j) :: xR q c :: st) Y G (va_up (va_up N q T) r U) Q := V_ia hd hY hj hn (by rw [va_up_no _ _ hne, va_up_eq]; exact k)
theorem V_iasq (hne : q ≠ r) {c n j : Nat} {x : Int32} (hd : decode cc pc = .ok (.iastore, 1)) (hY : ((q, c), (1, n)) ∈ Y) (hj : j < n) (hn : n < 2 ^ 31) (k : V own ini cc nL ret X d b (pc + 1) loc st Y G (va_up (va_up N q (va_up T c (upd (T c) j x))) r U) Q) : V own ini cc nL ret X d b pc loc (xI x :: xI (nI j) :: xR q c :: st) Y G (va_up (va_up N q T) r U) Q := V_comm hne (V_iasr hd hY hj hn (V_comm hne.symm k))
end XR
