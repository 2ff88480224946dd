theorem xw_mi : Cond.initialized "java/lang/Math" ∈ xWd := xWd_in (by decide +kernel) rfl
section XR
variable {own : String} {ini : Bool} {cc : ByteArray} {nL : Nat} {ret : Option FieldType} {X : Option (Nat × (Nat → Int32))} {d : Nat} {b : Nat × Nat} {pc : Nat} {loc : List (Option xAV)} {st : List xAV} {Y : xY} {G : xG} {N : xM} {Q : Option xAV → xY → xG → xM → Prop}
theorem V_mmax {idx : Nat} {x y : Int32} (hd : decode cc pc = .ok (.invokestatic idx, 3)) (hw : Cond.methodLink own idx yJ9_max_7cf53 ∈ xWd) (hst : Nat.ble st.length 4 = true) (k : V own ini cc nL ret X (d + 1) b (pc + 3) loc (xI (if x < y then y else x) :: st) Y G N Q) : V own ini cc nL ret X (d + 1) b pc loc (xI y :: xI x :: st) Y G N Q := by
  intro p l e R s m args below meth c0 D I A ρe Ye ρ H locs cells slots ls Qm C F Wo Ag hl hb hE
  have hfr : d + 1 ≤ R.frames := C.2.2.2.2.2.2.2.1
  have hlo : 64 * (d + 1) ≤ R.locals := C.2.2.2.2.2.2.2.2.1
  have hts := C.2.2.2.2.2.2.1
  have e1 := xcat_le ρ st
  have e2 := Nat.le_of_ble_eq_true hst
  exact va_mmax C.1 C.2.1 (C.2.2.2.2.1.trans hl.1.1.symm) C.2.2.2.2.2.1 (hts _ hw) (hts _ msJ9_max_7cf53) (hts _ xw_mi) (hts _ mcJ9_max_7cf53) (by omega) (by omega) (by omega) (by omega) hd (k p l e R s m args below meth c0 D I A ρe Ye ρ H locs cells slots ls Qm C F Wo Ag hl hb hE)
theorem V_mmin {idx : Nat} {x y : Int32} (hd : decode cc pc = .ok (.invokestatic idx, 3)) (hw : Cond.methodLink own idx yJ9_min_7cf53 ∈ xWd) (hst : Nat.ble st.length 4 = true) (k : V own ini cc nL ret X (d + 1) b (pc + 3) loc (xI (if y < x then y else x) :: st) Y G N Q) : V own ini cc nL ret X (d + 1) b pc loc (xI y :: xI x :: st) Y G N Q := by
  intro p l e R s m args below meth c0 D I A ρe Ye ρ H locs cells slots ls Qm C F Wo Ag hl hb hE
  have hfr : d + 1 ≤ R.frames := C.2.2.2.2.2.2.2.1
  have hlo : 64 * (d + 1) ≤ R.locals := C.2.2.2.2.2.2.2.2.1
  have hts := C.2.2.2.2.2.2.1
  have e1 := xcat_le ρ st
  have e2 := Nat.le_of_ble_eq_true hst
  exact va_mmin C.1 C.2.1 (C.2.2.2.2.1.trans hl.1.1.symm) C.2.2.2.2.2.1 (hts _ hw) (hts _ msJ9_min_7cf53) (hts _ xw_mi) (hts _ mcJ9_min_7cf53) (by omega) (by omega) (by omega) (by omega) hd (k p l e R s m args below meth c0 D I A ρe Ye ρ H locs cells slots ls Qm C F Wo Ag hl hb hE)
end XR
