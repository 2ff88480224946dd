theorem cutN (v : Int32) {a b : Nat} (hab : a + b = 32) (ha : 0 < a) (hb : 0 < b) : (v.toBitVec.signExtend a).signExtend 32 = (v.toBitVec <<< b).sshiftRight b := by
  apply BitVec.eq_of_getLsbD_eq
  intro i hi
  rw [BitVec.getLsbD_signExtend, BitVec.getLsbD_sshiftRight, BitVec.getLsbD_shiftLeft, BitVec.getLsbD_signExtend, BitVec.msb_eq_getLsbD_last, BitVec.msb_eq_getLsbD_last, BitVec.getLsbD_signExtend, BitVec.msb_eq_getLsbD_last (x := v.toBitVec <<< b), BitVec.getLsbD_shiftLeft]
  by_cases c : i < a
  · rw [decide_eq_true (show i < 32 from hi), if_pos c, decide_eq_true c, if_pos hi, decide_eq_false (show ¬ 32 ≤ i by omega), if_pos (show b + i < 32 by omega), decide_eq_true (show b + i < 32 by omega), decide_eq_false (show ¬ b + i < b by omega), show b + i - b = i by omega]
    rfl
  · rw [decide_eq_true (show i < 32 from hi), if_neg c, decide_eq_true (show a - 1 < a by omega), if_pos (show a - 1 < 32 by omega), decide_eq_false (show ¬ 32 ≤ i by omega), if_neg (show ¬ b + i < 32 by omega), decide_eq_true (show 32 - 1 < 32 by omega), decide_eq_false (show ¬ 32 - 1 < b by omega), show 32 - 1 - b = a - 1 by omega]
    rfl
theorem cut8 (v : Int32) : v.toInt8.toInt32 = (v <<< (nI 24 &&& 31)) >>> (nI 24 &&& 31) := Int32.toBitVec_inj.mp (cutN v (a := 8) (b := 24) rfl (by decide) (by decide))
theorem cut16 (v : Int32) : v.toInt16.toInt32 = (v <<< (nI 16 &&& 31)) >>> (nI 16 &&& 31) := Int32.toBitVec_inj.mp (cutN v (a := 16) (b := 16) rfl (by decide) (by decide))
theorem cut_eq {l : Nat} (hl : l ≤ 2) (v : Int32) : cCut (nI l) v = rCut (nI l) v := by
  unfold cCut rCut
  obtain rfl | rfl | rfl : l = 0 ∨ l = 1 ∨ l = 2 := by omega
  · rw [if_neg (by decide), if_pos (by decide), cut8]
  · rw [if_pos (by decide), if_neg (by decide), if_neg (by decide), if_pos (by decide), cut16]
  · rw [if_pos (by decide), if_pos (by decide), if_neg (by decide), if_neg (by decide)]
