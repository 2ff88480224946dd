def cPce (T : xT) (mb p : Nat) (y : Int32) : Int32 := if y = nI (0 + 0) then T 10 p else if y = nI (0 + 1) then T 11 p else if y = nI (0 + 2) then T 12 p else if y = nI (0 + 3) then T 13 p else if y = nI (0 + 4) then T 14 p else if y = nI (0 + 5) then T 15 p else if y = nI (0 + 6) then tBits T (nI p) (nI p) mb else -1000001
def cStd (T : xT) (mb : Nat) (y : Int32) : Int32 := if y = nI (0 + 0) then T 0 0 else if y = nI (0 + 1) then tBits T (nI 10) (nI 10) mb else if y = nI (0 + 2) then tBits T (nI 0) (nI 7) mb else if y = nI (0 + 3) then tBits T (nI 20) (nI 27) mb else if y = nI (0 + 4) then tBits T (nI 8) (nI 8) mb else if y = nI (0 + 5) then tBits T (nI 9) (nI 9) mb else -1000001
def cCnt (N : xM) (mb pn : Nat) (y : Int32) : Int32 := if y = nI (0 + 0) then cPres (N 1) 8 else if y = nI (0 + 1) then nI pn else if y = nI (0 + 2) then nI mb else if y = nI (0 + 3) then N 3 0 1 else if y = nI (0 + 4) then jBC (tBits (N 3) (nI 0) (nI 7) mb) else if y = nI (0 + 5) then tWent (N 3) pn else if y = nI (0 + 6) then N 5 0 2 else if y = nI (0 + 7) then N 2 0 1 else -1000001
def cMrb (T : xT) (m : Nat) (y : Int32) : Int32 := if y = nI (0 + 0) then T 6 m else if y = nI (0 + 1) then T 7 m else if y = nI (0 + 2) then T 8 m else -1000001
section K6
variable {d : Nat} {b : Nat × Nat} {Y : xY} {G : xG} {N : xM} {T : xT} {Q : Option xAV → xY → xG → xM → Prop}
theorem kX6_kind (hS : xSt Y G) (hN3 : N 3 = T) {mb pn : Nat} (hc : cSt T mb pn) {a v : Int32} (hv : ∀ p, a = nI p → p < pn → T 9 p = v) (hQ : Q (some (xI (if rIn a (nI 0) (nI pn - nI 1) then v else -1000001))) Y G N) : V RX6 false cX6_kind 2 (some .int) none (d + 2) b 0 [some (xR 0 0), some (xI a)] [] Y G N Q := by
  refine V_ald0 dX6_kind_0 ?_
  refine V_ild1 dX6_kind_1 ?_
  refine V_iv1 dX6_kind_2 wlX6_160 mdX6_noPiece miX6_noPiece rfl (hS.r0.1 0 (0, 6) rfl) rfl rfl (kX6_noPiece hS hN3 hc ⟨rfl, ?_⟩)
  refine V_ifeqB (tgt := 13) dX6_kind_5 (by decide) (fun c5 => ?_) (fun c5 => ?_)
  · replace c5 := Classical.not_not.mp c5
    obtain ⟨p, hp, rfl⟩ := rIn_m c5 (by have := hc.b6; omega)
    have hb := hc.b6
    refine V_ald0 dX6_kind_13 ?_
    refine V_getR dX6_kind_14 flX6_26 (hS.r0.1 0 (0, 6) rfl) (hS.r0.2 2 (3, 0) rfl) ?_
    refine V_getR dX6_kind_17 flX6_308 ((hS.tr 3 rfl).1 0 (0, 5) rfl) (show G 3 0 8 = some (3, 9) from (hS.tr 3 rfl).2 8 (by decide) (by decide)) ?_
    refine V_ild1 dX6_kind_20 ?_
    refine V_ia dX6_kind_21 ((hS.tr 3 rfl).1 9 (1, 8) rfl) (by omega) (by decide) ?_
    refine V_eqI (by rw [hN3] : _ = T 9 p) ?_
    refine V_ireturn dX6_kind_22 ⟨_, rfl, vp_nar_int _⟩ ?_
    rw [if_pos c5, ← hv p rfl hp] at hQ
    exact hQ
  · skip
    refine V_ldc dX6_kind_8 wkX6_69 ?_
    refine V_goto (tgt := 22) dX6_kind_10 (by decide) ?_
    refine V_ireturn dX6_kind_22 ⟨_, rfl, vp_nar_int _⟩ ?_
    rw [if_neg c5] at hQ
    exact hQ
theorem kX6_status (hS : xSt Y G) (hQ : Q (some (xI (N 0 0 9))) Y G N) : V RX6 false cX6_status 1 (some .int) none d b 0 [some (xR 0 0)] [] Y G N Q := by
  refine V_ald0 dX6_status_0 ?_
  refine V_getI dX6_status_1 flX6_62 (hS.r0.1 0 (0, 6) rfl) ?_
  refine V_ireturn dX6_status_4 ⟨_, rfl, vp_nar_int _⟩ ?_
  exact hQ
theorem kX6_fault (hS : xSt Y G) (hQ : Q (some (xI (N 0 0 8))) Y G N) : V RX6 false cX6_fault 1 (some .int) none d b 0 [some (xR 0 0)] [] Y G N Q := by
  refine V_ald0 dX6_fault_0 ?_
  refine V_getI dX6_fault_1 flX6_58 (hS.r0.1 0 (0, 6) rfl) ?_
  refine V_ireturn dX6_fault_4 ⟨_, rfl, vp_nar_int _⟩ ?_
  exact hQ
theorem kX6_marble (hS : xSt Y G) (hN3 : N 3 = T) {mb pn : Nat} (hc : cSt T mb pn) {a y v : Int32} (hv : ∀ m, a = nI m → m < mb → cMrb T m y = v) (hQ : Q (some (xI (if rIn a (nI 0) (nI mb - nI 1) then v else -1000001))) Y G N) : V RX6 false cX6_marble 3 (some .int) none (d + 2) b 0 [some (xR 0 0), some (xI a), some (xI y)] [] Y G N Q := by
  refine V_ald0 dX6_marble_0 ?_
  refine V_ild1 dX6_marble_1 ?_
  refine V_iv1 dX6_marble_2 wlX6_180 mdX6_noMarble miX6_noMarble rfl (hS.r0.1 0 (0, 6) rfl) rfl rfl (kX6_noMarble hS hN3 hc ⟨rfl, ?_⟩)
  refine V_ifeqB (tgt := 11) dX6_marble_5 (by decide) (fun c5 => ?_) (fun c5 => ?_)
  · replace c5 := Classical.not_not.mp c5
    obtain ⟨m, hm, rfl⟩ := rIn_m c5 (by have := hc.b6; omega)
    have hb := hc.b6
    rw [if_pos c5, ← hv m rfl hm] at hQ
    refine V_ild2 dX6_marble_11 ?_
    refine V_tsw3 (lo := 0) (t0 := 40) (t1 := 50) (t2 := 60) (td := 70) dX6_marble_12 (by decide) (by decide) (by decide) (by decide) (fun s12 => ?_) (fun s12 => ?_) (fun s12 => ?_) (fun s12_0 s12_1 s12_2 => ?_)
    · skip
      refine V_ald0 dX6_marble_40 ?_
      refine V_getR dX6_marble_41 flX6_26 (hS.r0.1 0 (0, 6) rfl) (hS.r0.2 2 (3, 0) rfl) ?_
      refine V_getR dX6_marble_44 flX6_190 ((hS.tr 3 rfl).1 0 (0, 5) rfl) (show G 3 0 5 = some (3, 6) from (hS.tr 3 rfl).2 5 (by decide) (by decide)) ?_
      refine V_ild1 dX6_marble_47 ?_
      refine V_ia dX6_marble_48 ((hS.tr 3 rfl).1 6 (1, 6) rfl) (by omega) (by decide) ?_
      refine V_eqI (by rw [hN3] : _ = T 6 m) ?_
      refine V_ireturn dX6_marble_49 ⟨_, rfl, vp_nar_int _⟩ ?_
      rw [cMrb, if_pos s12] at hQ
      exact hQ
    · skip
      refine V_ald0 dX6_marble_50 ?_
      refine V_getR dX6_marble_51 flX6_26 (hS.r0.1 0 (0, 6) rfl) (hS.r0.2 2 (3, 0) rfl) ?_
      refine V_getR dX6_marble_54 flX6_193 ((hS.tr 3 rfl).1 0 (0, 5) rfl) (show G 3 0 6 = some (3, 7) from (hS.tr 3 rfl).2 6 (by decide) (by decide)) ?_
      refine V_ild1 dX6_marble_57 ?_
      refine V_ia dX6_marble_58 ((hS.tr 3 rfl).1 7 (1, 6) rfl) (by omega) (by decide) ?_
      refine V_eqI (by rw [hN3] : _ = T 7 m) ?_
      refine V_ireturn dX6_marble_59 ⟨_, rfl, vp_nar_int _⟩ ?_
      rw [cMrb, if_neg (fun e => xne s12 e (by decide)), if_pos s12] at hQ
      exact hQ
    · skip
      refine V_ald0 dX6_marble_60 ?_
      refine V_getR dX6_marble_61 flX6_26 (hS.r0.1 0 (0, 6) rfl) (hS.r0.2 2 (3, 0) rfl) ?_
      refine V_getR dX6_marble_64 flX6_196 ((hS.tr 3 rfl).1 0 (0, 5) rfl) (show G 3 0 7 = some (3, 8) from (hS.tr 3 rfl).2 7 (by decide) (by decide)) ?_
      refine V_ild1 dX6_marble_67 ?_
      refine V_ia dX6_marble_68 ((hS.tr 3 rfl).1 8 (1, 6) rfl) (by omega) (by decide) ?_
      refine V_eqI (by rw [hN3] : _ = T 8 m) ?_
      refine V_ireturn dX6_marble_69 ⟨_, rfl, vp_nar_int _⟩ ?_
      rw [cMrb, if_neg (fun e => xne s12 e (by decide)), if_neg (fun e => xne s12 e (by decide)), if_pos s12] at hQ
      exact hQ
    · skip
      refine V_ldc dX6_marble_70 wkX6_69 ?_
      refine V_ireturn dX6_marble_72 ⟨_, rfl, vp_nar_int _⟩ ?_
      rw [cMrb, if_neg s12_0, if_neg s12_1, if_neg s12_2] at hQ
      exact hQ
  · skip
    refine V_ldc dX6_marble_8 wkX6_69 ?_
    refine V_ireturn dX6_marble_10 ⟨_, rfl, vp_nar_int _⟩ ?_
    rw [if_neg c5] at hQ
    exact hQ
theorem kX6_piece (hS : xSt Y G) (hN3 : N 3 = T) {mb pn : Nat} (hc : cSt T mb pn) {a y v : Int32} (hv : ∀ p, a = nI p → p < pn → cPce T mb p y = v) (hQ : Q (some (xI (if rIn a (nI 0) (nI pn - nI 1) then v else -1000001))) Y G N) : V RX6 false cX6_piece 3 (some .int) none (d + 2) b 0 [some (xR 0 0), some (xI a), some (xI y)] [] Y G N Q := by
  refine V_ald0 dX6_piece_0 ?_
  refine V_ild1 dX6_piece_1 ?_
  refine V_iv1 dX6_piece_2 wlX6_160 mdX6_noPiece miX6_noPiece rfl (hS.r0.1 0 (0, 6) rfl) rfl rfl (kX6_noPiece hS hN3 hc ⟨rfl, ?_⟩)
  refine V_ifeqB (tgt := 11) dX6_piece_5 (by decide) (fun c5 => ?_) (fun c5 => ?_)
  · replace c5 := Classical.not_not.mp c5
    obtain ⟨p, hp, rfl⟩ := rIn_m c5 (by have := hc.b6; omega)
    have hb := hc.b6
    rw [if_pos c5, ← hv p rfl hp] at hQ
    refine V_ild2 dX6_piece_11 ?_
    refine V_tsw7 (lo := 0) (t0 := 56) (t1 := 66) (t2 := 76) (t3 := 86) (t4 := 96) (t5 := 106) (t6 := 116) (td := 125) dX6_piece_12 (by decide) (by decide) (by decide) (by decide) (by decide) (by decide) (by decide) (by decide) (fun s12 => ?_) (fun s12 => ?_) (fun s12 => ?_) (fun s12 => ?_) (fun s12 => ?_) (fun s12 => ?_) (fun s12 => ?_) (fun s12_0 s12_1 s12_2 s12_3 s12_4 s12_5 s12_6 => ?_)
    · skip
      refine V_ald0 dX6_piece_56 ?_
      refine V_getR dX6_piece_57 flX6_26 (hS.r0.1 0 (0, 6) rfl) (hS.r0.2 2 (3, 0) rfl) ?_
      refine V_getR dX6_piece_60 flX6_167 ((hS.tr 3 rfl).1 0 (0, 5) rfl) (show G 3 0 9 = some (3, 10) from (hS.tr 3 rfl).2 9 (by decide) (by decide)) ?_
      refine V_ild1 dX6_piece_63 ?_
      refine V_ia dX6_piece_64 ((hS.tr 3 rfl).1 10 (1, 8) rfl) (by omega) (by decide) ?_
      refine V_eqI (by rw [hN3] : _ = T 10 p) ?_
      refine V_ireturn dX6_piece_65 ⟨_, rfl, vp_nar_int _⟩ ?_
      rw [cPce, if_pos s12] at hQ
      exact hQ
    · skip
      refine V_ald0 dX6_piece_66 ?_
      refine V_getR dX6_piece_67 flX6_26 (hS.r0.1 0 (0, 6) rfl) (hS.r0.2 2 (3, 0) rfl) ?_
      refine V_getR dX6_piece_70 flX6_174 ((hS.tr 3 rfl).1 0 (0, 5) rfl) (show G 3 0 10 = some (3, 11) from (hS.tr 3 rfl).2 10 (by decide) (by decide)) ?_
      refine V_ild1 dX6_piece_73 ?_
      refine V_ia dX6_piece_74 ((hS.tr 3 rfl).1 11 (1, 8) rfl) (by omega) (by decide) ?_
      refine V_eqI (by rw [hN3] : _ = T 11 p) ?_
      refine V_ireturn dX6_piece_75 ⟨_, rfl, vp_nar_int _⟩ ?_
      rw [cPce, if_neg (fun e => xne s12 e (by decide)), if_pos s12] at hQ
      exact hQ
    · skip
      refine V_ald0 dX6_piece_76 ?_
      refine V_getR dX6_piece_77 flX6_26 (hS.r0.1 0 (0, 6) rfl) (hS.r0.2 2 (3, 0) rfl) ?_
      refine V_getR dX6_piece_80 flX6_177 ((hS.tr 3 rfl).1 0 (0, 5) rfl) (show G 3 0 11 = some (3, 12) from (hS.tr 3 rfl).2 11 (by decide) (by decide)) ?_
      refine V_ild1 dX6_piece_83 ?_
      refine V_ia dX6_piece_84 ((hS.tr 3 rfl).1 12 (1, 8) rfl) (by omega) (by decide) ?_
      refine V_eqI (by rw [hN3] : _ = T 12 p) ?_
      refine V_ireturn dX6_piece_85 ⟨_, rfl, vp_nar_int _⟩ ?_
      rw [cPce, if_neg (fun e => xne s12 e (by decide)), if_neg (fun e => xne s12 e (by decide)), if_pos s12] at hQ
      exact hQ
    · skip
      refine V_ald0 dX6_piece_86 ?_
      refine V_getR dX6_piece_87 flX6_26 (hS.r0.1 0 (0, 6) rfl) (hS.r0.2 2 (3, 0) rfl) ?_
      refine V_getR dX6_piece_90 flX6_199 ((hS.tr 3 rfl).1 0 (0, 5) rfl) (show G 3 0 12 = some (3, 13) from (hS.tr 3 rfl).2 12 (by decide) (by decide)) ?_
      refine V_ild1 dX6_piece_93 ?_
      refine V_ia dX6_piece_94 ((hS.tr 3 rfl).1 13 (1, 8) rfl) (by omega) (by decide) ?_
      refine V_eqI (by rw [hN3] : _ = T 13 p) ?_
      refine V_ireturn dX6_piece_95 ⟨_, rfl, vp_nar_int _⟩ ?_
      rw [cPce, if_neg (fun e => xne s12 e (by decide)), if_neg (fun e => xne s12 e (by decide)), if_neg (fun e => xne s12 e (by decide)), if_pos s12] at hQ
      exact hQ
    · skip
      refine V_ald0 dX6_piece_96 ?_
      refine V_getR dX6_piece_97 flX6_26 (hS.r0.1 0 (0, 6) rfl) (hS.r0.2 2 (3, 0) rfl) ?_
      refine V_getR dX6_piece_100 flX6_202 ((hS.tr 3 rfl).1 0 (0, 5) rfl) (show G 3 0 13 = some (3, 14) from (hS.tr 3 rfl).2 13 (by decide) (by decide)) ?_
      refine V_ild1 dX6_piece_103 ?_
      refine V_ia dX6_piece_104 ((hS.tr 3 rfl).1 14 (1, 8) rfl) (by omega) (by decide) ?_
      refine V_eqI (by rw [hN3] : _ = T 14 p) ?_
      refine V_ireturn dX6_piece_105 ⟨_, rfl, vp_nar_int _⟩ ?_
      rw [cPce, if_neg (fun e => xne s12 e (by decide)), if_neg (fun e => xne s12 e (by decide)), if_neg (fun e => xne s12 e (by decide)), if_neg (fun e => xne s12 e (by decide)), if_pos s12] at hQ
      exact hQ
    · skip
      refine V_ald0 dX6_piece_106 ?_
      refine V_getR dX6_piece_107 flX6_26 (hS.r0.1 0 (0, 6) rfl) (hS.r0.2 2 (3, 0) rfl) ?_
      refine V_getR dX6_piece_110 flX6_205 ((hS.tr 3 rfl).1 0 (0, 5) rfl) (show G 3 0 14 = some (3, 15) from (hS.tr 3 rfl).2 14 (by decide) (by decide)) ?_
      refine V_ild1 dX6_piece_113 ?_
      refine V_ia dX6_piece_114 ((hS.tr 3 rfl).1 15 (1, 8) rfl) (by omega) (by decide) ?_
      refine V_eqI (by rw [hN3] : _ = T 15 p) ?_
      refine V_ireturn dX6_piece_115 ⟨_, rfl, vp_nar_int _⟩ ?_
      rw [cPce, if_neg (fun e => xne s12 e (by decide)), if_neg (fun e => xne s12 e (by decide)), if_neg (fun e => xne s12 e (by decide)), if_neg (fun e => xne s12 e (by decide)), if_neg (fun e => xne s12 e (by decide)), if_pos s12] at hQ
      exact hQ
    · skip
      refine V_ald0 dX6_piece_116 ?_
      refine V_getR dX6_piece_117 flX6_26 (hS.r0.1 0 (0, 6) rfl) (hS.r0.2 2 (3, 0) rfl) ?_
      refine V_ild1 dX6_piece_120 ?_
      refine V_iv1 dX6_piece_121 wlX6_157 mdX5_bitsAt miX5_bitsAt rfl ((hS.tr 3 rfl).1 0 (0, 5) rfl) rfl rfl (kX5_bitsAtN (hS.tr 3 rfl) hN3 hc.1 hc.b6.1 ⟨rfl, ?_⟩)
      refine V_ireturn dX6_piece_124 ⟨_, rfl, vp_nar_int _⟩ ?_
      rw [cPce, if_neg (fun e => xne s12 e (by decide)), if_neg (fun e => xne s12 e (by decide)), if_neg (fun e => xne s12 e (by decide)), if_neg (fun e => xne s12 e (by decide)), if_neg (fun e => xne s12 e (by decide)), if_neg (fun e => xne s12 e (by decide)), if_pos s12] at hQ
      exact hQ
    · skip
      refine V_ldc dX6_piece_125 wkX6_69 ?_
      refine V_ireturn dX6_piece_127 ⟨_, rfl, vp_nar_int _⟩ ?_
      rw [cPce, if_neg s12_0, if_neg s12_1, if_neg s12_2, if_neg s12_3, if_neg s12_4, if_neg s12_5, if_neg s12_6] at hQ
      exact hQ
  · skip
    refine V_ldc dX6_piece_8 wkX6_69 ?_
    refine V_ireturn dX6_piece_10 ⟨_, rfl, vp_nar_int _⟩ ?_
    rw [if_neg c5] at hQ
    exact hQ
theorem kX6_stand (hS : xSt Y G) (hN3 : N 3 = T) {mb pn : Nat} (hc : cSt T mb pn) {y v : Int32} (hv : 1 ≤ mb → tOK mb pn T → cStd T mb y = v) (hQ : Q (some (xI (if nI pn = 0 then -1000002 else v))) Y G N) : V RX6 false cX6_stand 2 (some .int) none (d + 2) b 0 [some (xR 0 0), some (xI y)] [] Y G N Q := by
  refine V_ald0 dX6_stand_0 ?_
  refine V_iv0 dX6_stand_1 wlX6_144 mdX6_noRun miX6_noRun rfl (hS.r0.1 0 (0, 6) rfl) rfl rfl (kX6_noRun hS hN3 hc ⟨rfl, ?_⟩)
  refine V_ifeqB (tgt := 10) dX6_stand_4 (by decide) (fun c4 => ?_) (fun c4 => ?_)
  · skip
    rw [if_neg c4, ← hv (hc.ok0 c4).1 (hc.ok0 c4).2] at hQ
    refine V_ild1 dX6_stand_10 ?_
    refine V_tsw6 (lo := 0) (t0 := 48) (t1 := 56) (t2 := 66) (t3 := 74) (t4 := 82) (t5 := 92) (td := 102) dX6_stand_11 (by decide) (by decide) (by decide) (by decide) (by decide) (by decide) (by decide) (fun s11 => ?_) (fun s11 => ?_) (fun s11 => ?_) (fun s11 => ?_) (fun s11 => ?_) (fun s11 => ?_) (fun s11_0 s11_1 s11_2 s11_3 s11_4 s11_5 => ?_)
    · skip
      refine V_ald0 dX6_stand_48 ?_
      refine V_getR dX6_stand_49 flX6_26 (hS.r0.1 0 (0, 6) rfl) (hS.r0.2 2 (3, 0) rfl) ?_
      refine V_getI dX6_stand_52 flX6_208 ((hS.tr 3 rfl).1 0 (0, 5) rfl) ?_
      refine V_eqI (by rw [hN3] : _ = T 0 0) ?_
      refine V_ireturn dX6_stand_55 ⟨_, rfl, vp_nar_int _⟩ ?_
      rw [cStd, if_pos s11] at hQ
      exact hQ
    · skip
      refine V_ald0 dX6_stand_56 ?_
      refine V_getR dX6_stand_57 flX6_26 (hS.r0.1 0 (0, 6) rfl) (hS.r0.2 2 (3, 0) rfl) ?_
      refine V_bipush (v := nI 10) dX6_stand_60 (by decide) ?_
      refine V_iv1 dX6_stand_62 wlX6_157 mdX5_bitsAt miX5_bitsAt rfl ((hS.tr 3 rfl).1 0 (0, 5) rfl) rfl rfl (kX5_bitsAtN (hS.tr 3 rfl) hN3 hc.1 hc.b6.1 ⟨rfl, ?_⟩)
      refine V_ireturn dX6_stand_65 ⟨_, rfl, vp_nar_int _⟩ ?_
      rw [cStd, if_neg (fun e => xne s11 e (by decide)), if_pos s11] at hQ
      exact hQ
    · skip
      refine V_ald0 dX6_stand_66 ?_
      refine V_getR dX6_stand_67 flX6_26 (hS.r0.1 0 (0, 6) rfl) (hS.r0.2 2 (3, 0) rfl) ?_
      refine V_iv0 dX6_stand_70 wlX6_211 mdX5_bitsRunning miX5_bitsRunning rfl ((hS.tr 3 rfl).1 0 (0, 5) rfl) rfl rfl (kX5_bitsRunningN (hS.tr 3 rfl) hN3 hc.1 hc.b6.1 ⟨rfl, ?_⟩)
      refine V_ireturn dX6_stand_73 ⟨_, rfl, vp_nar_int _⟩ ?_
      rw [cStd, if_neg (fun e => xne s11 e (by decide)), if_neg (fun e => xne s11 e (by decide)), if_pos s11] at hQ
      exact hQ
    · skip
      refine V_ald0 dX6_stand_74 ?_
      refine V_getR dX6_stand_75 flX6_26 (hS.r0.1 0 (0, 6) rfl) (hS.r0.2 2 (3, 0) rfl) ?_
      refine V_iv0 dX6_stand_78 wlX6_214 mdX5_bitsHeld miX5_bitsHeld rfl ((hS.tr 3 rfl).1 0 (0, 5) rfl) rfl rfl (kX5_bitsHeldN (hS.tr 3 rfl) hN3 hc.1 hc.b6.1 ⟨rfl, ?_⟩)
      refine V_ireturn dX6_stand_81 ⟨_, rfl, vp_nar_int _⟩ ?_
      rw [cStd, if_neg (fun e => xne s11 e (by decide)), if_neg (fun e => xne s11 e (by decide)), if_neg (fun e => xne s11 e (by decide)), if_pos s11] at hQ
      exact hQ
    · skip
      refine V_ald0 dX6_stand_82 ?_
      refine V_getR dX6_stand_83 flX6_26 (hS.r0.1 0 (0, 6) rfl) (hS.r0.2 2 (3, 0) rfl) ?_
      refine V_bipush (v := nI 8) dX6_stand_86 (by decide) ?_
      refine V_iv1 dX6_stand_88 wlX6_157 mdX5_bitsAt miX5_bitsAt rfl ((hS.tr 3 rfl).1 0 (0, 5) rfl) rfl rfl (kX5_bitsAtN (hS.tr 3 rfl) hN3 hc.1 hc.b6.1 ⟨rfl, ?_⟩)
      refine V_ireturn dX6_stand_91 ⟨_, rfl, vp_nar_int _⟩ ?_
      rw [cStd, if_neg (fun e => xne s11 e (by decide)), if_neg (fun e => xne s11 e (by decide)), if_neg (fun e => xne s11 e (by decide)), if_neg (fun e => xne s11 e (by decide)), if_pos s11] at hQ
      exact hQ
    · skip
      refine V_ald0 dX6_stand_92 ?_
      refine V_getR dX6_stand_93 flX6_26 (hS.r0.1 0 (0, 6) rfl) (hS.r0.2 2 (3, 0) rfl) ?_
      refine V_bipush (v := nI 9) dX6_stand_96 (by decide) ?_
      refine V_iv1 dX6_stand_98 wlX6_157 mdX5_bitsAt miX5_bitsAt rfl ((hS.tr 3 rfl).1 0 (0, 5) rfl) rfl rfl (kX5_bitsAtN (hS.tr 3 rfl) hN3 hc.1 hc.b6.1 ⟨rfl, ?_⟩)
      refine V_ireturn dX6_stand_101 ⟨_, rfl, vp_nar_int _⟩ ?_
      rw [cStd, if_neg (fun e => xne s11 e (by decide)), if_neg (fun e => xne s11 e (by decide)), if_neg (fun e => xne s11 e (by decide)), if_neg (fun e => xne s11 e (by decide)), if_neg (fun e => xne s11 e (by decide)), if_pos s11] at hQ
      exact hQ
    · skip
      refine V_ldc dX6_stand_102 wkX6_69 ?_
      refine V_ireturn dX6_stand_104 ⟨_, rfl, vp_nar_int _⟩ ?_
      rw [cStd, if_neg s11_0, if_neg s11_1, if_neg s11_2, if_neg s11_3, if_neg s11_4, if_neg s11_5] at hQ
      exact hQ
  · skip
    refine V_ldc dX6_stand_7 wkX6_143 ?_
    refine V_ireturn dX6_stand_9 ⟨_, rfl, vp_nar_int _⟩ ?_
    rw [if_pos c4] at hQ
    exact hQ
theorem kX6_count (hS : xSt Y G) {mb pn : Nat} (hc : cSt (N 3) mb pn) {y : Int32} (hQ : Q (some (xI (cCnt N mb pn y))) Y G N) : V RX6 false cX6_count 2 (some .int) none (d + 3) b 0 [some (xR 0 0), some (xI y)] [] Y G N Q := by
  refine V_ild1 dX6_count_0 ?_
  refine V_tsw8 (lo := 0) (t0 := 48) (t1 := 56) (t2 := 64) (t3 := 72) (t4 := 80) (t5 := 91) (t6 := 99) (t7 := 107) (td := 115) dX6_count_1 (by decide) (by decide) (by decide) (by decide) (by decide) (by decide) (by decide) (by decide) (by decide) (fun s1 => ?_) (fun s1 => ?_) (fun s1 => ?_) (fun s1 => ?_) (fun s1 => ?_) (fun s1 => ?_) (fun s1 => ?_) (fun s1 => ?_) (fun s1_0 s1_1 s1_2 s1_3 s1_4 s1_5 s1_6 s1_7 => ?_)
  · skip
    refine V_ald0 dX6_count_48 ?_
    refine V_getR dX6_count_49 flX6_10 (hS.r0.1 0 (0, 6) rfl) (hS.r0.2 0 (1, 0) rfl) ?_
    refine V_in1 1 ?_
    refine V_iv0 dX6_count_52 wlX6_327 mdX2_present miX2_present rfl (hS.r1.1 0 (0, 2) rfl) rfl rfl (kX2_present hS ⟨rfl, ?_⟩)
    rw [va_up_id]
    refine V_ireturn dX6_count_55 ⟨_, rfl, vp_nar_int _⟩ ?_
    rw [cCnt, if_pos s1] at hQ
    exact hQ
  · skip
    refine V_ald0 dX6_count_56 ?_
    refine V_getR dX6_count_57 flX6_26 (hS.r0.1 0 (0, 6) rfl) (hS.r0.2 2 (3, 0) rfl) ?_
    refine V_getI dX6_count_60 flX6_134 ((hS.tr 3 rfl).1 0 (0, 5) rfl) ?_
    refine V_eqI hc.2.1 ?_
    refine V_ireturn dX6_count_63 ⟨_, rfl, vp_nar_int _⟩ ?_
    rw [cCnt, if_neg (fun e => xne s1 e (by decide)), if_pos s1] at hQ
    exact hQ
  · skip
    refine V_ald0 dX6_count_64 ?_
    refine V_getR dX6_count_65 flX6_26 (hS.r0.1 0 (0, 6) rfl) (hS.r0.2 2 (3, 0) rfl) ?_
    refine V_getI dX6_count_68 flX6_242 ((hS.tr 3 rfl).1 0 (0, 5) rfl) ?_
    refine V_eqI hc.1 ?_
    refine V_ireturn dX6_count_71 ⟨_, rfl, vp_nar_int _⟩ ?_
    rw [cCnt, if_neg (fun e => xne s1 e (by decide)), if_neg (fun e => xne s1 e (by decide)), if_pos s1] at hQ
    exact hQ
  · skip
    refine V_ald0 dX6_count_72 ?_
    refine V_getR dX6_count_73 flX6_26 (hS.r0.1 0 (0, 6) rfl) (hS.r0.2 2 (3, 0) rfl) ?_
    refine V_getI dX6_count_76 flX6_148 ((hS.tr 3 rfl).1 0 (0, 5) rfl) ?_
    refine V_ireturn dX6_count_79 ⟨_, rfl, vp_nar_int _⟩ ?_
    rw [cCnt, if_neg (fun e => xne s1 e (by decide)), if_neg (fun e => xne s1 e (by decide)), if_neg (fun e => xne s1 e (by decide)), if_pos s1] at hQ
    exact hQ
  · skip
    refine V_ald0 dX6_count_80 ?_
    refine V_getR dX6_count_81 flX6_26 (hS.r0.1 0 (0, 6) rfl) (hS.r0.2 2 (3, 0) rfl) ?_
    refine V_iv0 dX6_count_84 wlX6_211 mdX5_bitsRunning miX5_bitsRunning rfl ((hS.tr 3 rfl).1 0 (0, 5) rfl) rfl rfl (kX5_bitsRunningN (hS.tr 3 rfl) rfl hc.1 hc.b6.1 ⟨rfl, ?_⟩)
    refine V_is1 dX6_count_87 wlX6_330 mdJ6_bitCount_0f7a4 msJ6_bitCount_0f7a4 rfl rfl (kJ6_bitCount ⟨rfl, ?_⟩)
    refine V_ireturn dX6_count_90 ⟨_, rfl, vp_nar_int _⟩ ?_
    rw [cCnt, if_neg (fun e => xne s1 e (by decide)), if_neg (fun e => xne s1 e (by decide)), if_neg (fun e => xne s1 e (by decide)), if_neg (fun e => xne s1 e (by decide)), if_pos s1] at hQ
    exact hQ
  · skip
    refine V_ald0 dX6_count_91 ?_
    refine V_getR dX6_count_92 flX6_26 (hS.r0.1 0 (0, 6) rfl) (hS.r0.2 2 (3, 0) rfl) ?_
    refine V_iv0 dX6_count_95 wlX6_335 mdX5_wentOfAll miX5_wentOfAll rfl ((hS.tr 3 rfl).1 0 (0, 5) rfl) rfl rfl (kX5_wentOfAllN (hS.tr 3 rfl) rfl hc.2.1 hc.b6.2 ⟨rfl, ?_⟩)
    refine V_ireturn dX6_count_98 ⟨_, rfl, vp_nar_int _⟩ ?_
    rw [cCnt, if_neg (fun e => xne s1 e (by decide)), if_neg (fun e => xne s1 e (by decide)), if_neg (fun e => xne s1 e (by decide)), if_neg (fun e => xne s1 e (by decide)), if_neg (fun e => xne s1 e (by decide)), if_pos s1] at hQ
    exact hQ
  · skip
    refine V_ald0 dX6_count_99 ?_
    refine V_getR dX6_count_100 flX6_36 (hS.r0.1 0 (0, 6) rfl) (hS.r0.2 4 (5, 0) rfl) ?_
    refine V_in1 5 ?_
    refine V_iv0 dX6_count_103 wlX6_140 mdX0_kept miX0_kept rfl (hS.r5.1 0 (0, 0) rfl) rfl rfl (kX0_kept hS ⟨rfl, ?_⟩)
    rw [va_up_id]
    refine V_ireturn dX6_count_106 ⟨_, rfl, vp_nar_int _⟩ ?_
    rw [cCnt, if_neg (fun e => xne s1 e (by decide)), if_neg (fun e => xne s1 e (by decide)), if_neg (fun e => xne s1 e (by decide)), if_neg (fun e => xne s1 e (by decide)), if_neg (fun e => xne s1 e (by decide)), if_neg (fun e => xne s1 e (by decide)), if_pos s1] at hQ
    exact hQ
  · skip
    refine V_ald0 dX6_count_107 ?_
    refine V_getR dX6_count_108 flX6_19 (hS.r0.1 0 (0, 6) rfl) (hS.r0.2 1 (2, 0) rfl) ?_
    refine V_in1 2 ?_
    refine V_iv0 dX6_count_111 wlX6_108 mdX4_length miX4_length rfl (hS.r2.1 0 (0, 4) rfl) rfl rfl (kX4_length hS ⟨rfl, ?_⟩)
    rw [va_up_id]
    refine V_ireturn dX6_count_114 ⟨_, rfl, vp_nar_int _⟩ ?_
    rw [cCnt, if_neg (fun e => xne s1 e (by decide)), if_neg (fun e => xne s1 e (by decide)), if_neg (fun e => xne s1 e (by decide)), if_neg (fun e => xne s1 e (by decide)), if_neg (fun e => xne s1 e (by decide)), if_neg (fun e => xne s1 e (by decide)), if_neg (fun e => xne s1 e (by decide)), if_pos s1] at hQ
    exact hQ
  · skip
    refine V_ldc dX6_count_115 wkX6_69 ?_
    refine V_ireturn dX6_count_117 ⟨_, rfl, vp_nar_int _⟩ ?_
    rw [cCnt, if_neg s1_0, if_neg s1_1, if_neg s1_2, if_neg s1_3, if_neg s1_4, if_neg s1_5, if_neg s1_6, if_neg s1_7] at hQ
    exact hQ
theorem kX6_trace (hS : xSt Y G) {k : Nat} (hk : N 32 0 1 = nI k) (hk16 : k ≤ 16) {a : Int32} (hQ : Q (some (xI (cTrace (N 32) a))) Y G N) : V RX6 false cX6_trace 2 (some .int) none (d + 1) b 0 [some (xR 0 0), some (xI a)] [] Y G N Q := by
  refine V_ald0 dX6_trace_0 ?_
  refine V_getR dX6_trace_1 flX6_50 (hS.r0.1 0 (0, 6) rfl) (hS.r0.2 6 (32, 0) rfl) ?_
  refine V_ild1 dX6_trace_4 ?_
  refine V_in1 32 ?_
  refine V_iv1 dX6_trace_5 wlX6_324 mdX1_traceAt miX1_traceAt rfl (hS.r32.1 0 (0, 1) rfl) rfl rfl (kX1_traceAt hS hk hk16 ⟨rfl, ?_⟩)
  rw [va_up_id]
  refine V_ireturn dX6_trace_8 ⟨_, rfl, vp_nar_int _⟩ ?_
  exact hQ
theorem kX6_as (hS : xSt Y G) (hN3 : N 3 = T) {mb pn : Nat} (hc : cSt T mb pn) {a y kd : Int32} (hkd : ∀ p, a = nI p → p < pn → kd = (if cIsK y 6 (T 9 p) = 0 then nI 3 else 0)) (hQ : Q (some (xI (if rIn a (nI 0) (nI pn - nI 1) ∧ rIn y (nI 0) (nI 5) then (if kd = 0 then a else -1000010 - kd) else -1000001))) Y G (if rIn a (nI 0) (nI pn - nI 1) ∧ rIn y (nI 0) (nI 5) then cFd N kd else N)) : V RX6 false cX6_as 3 (some .int) none (d + 2) b 0 [some (xR 0 0), some (xI a), some (xI y)] [] Y G N Q := by
  refine V_ald0 dX6_as_0 ?_
  refine V_ild1 dX6_as_1 ?_
  refine V_iv1 dX6_as_2 wlX6_160 mdX6_noPiece miX6_noPiece rfl (hS.r0.1 0 (0, 6) rfl) rfl rfl (kX6_noPiece hS hN3 hc ⟨rfl, ?_⟩)
  refine V_ifneB (tgt := 17) dX6_as_5 (by decide) (fun c5 => ?_) (fun c5 => ?_)
  · skip
    refine V_ldc dX6_as_17 wkX6_69 ?_
    refine V_ireturn dX6_as_19 ⟨_, rfl, vp_nar_int _⟩ ?_
    rw [if_neg (fun h => c5 h.1), if_neg (fun h => c5 h.1)] at hQ
    exact hQ
  · replace c5 := Classical.not_not.mp c5
    refine V_ild2 dX6_as_8 ?_
    refine V_iconst (v := nI 0) dX6_as_9 (by decide) ?_
    refine V_iconst (v := nI 5) dX6_as_10 (by decide) ?_
    refine V_is3 dX6_as_11 wlX6_217 mdX6_outside msX6_outside rfl rfl (kX6_outside ⟨rfl, ?_⟩)
    refine V_ifeqB (tgt := 20) dX6_as_14 (by decide) (fun c14 => ?_) (fun c14 => ?_)
    · replace c14 := Classical.not_not.mp c14
      have hPP : rIn a (nI 0) (nI pn - nI 1) ∧ rIn y (nI 0) (nI 5) := ⟨c5, c14⟩
      rw [if_pos hPP, if_pos hPP] at hQ
      obtain ⟨p, hp, rfl⟩ := rIn_m c5 (by have := hc.b6; omega)
      have hb := hc.b6
      have hkd := hkd p rfl hp
      refine V_ald0 dX6_as_20 ?_
      refine V_getR dX6_as_21 flX6_26 (hS.r0.1 0 (0, 6) rfl) (hS.r0.2 2 (3, 0) rfl) ?_
      refine V_getR dX6_as_24 flX6_308 ((hS.tr 3 rfl).1 0 (0, 5) rfl) (show G 3 0 8 = some (3, 9) from (hS.tr 3 rfl).2 8 (by decide) (by decide)) ?_
      refine V_ild1 dX6_as_27 ?_
      refine V_ia dX6_as_28 ((hS.tr 3 rfl).1 9 (1, 8) rfl) (by omega) (by decide) ?_
      refine V_eqI (by rw [hN3] : _ = T 9 p) ?_
      refine V_ild2 dX6_as_29 ?_
      refine V_is2 dX6_as_30 wlX6_311 mdX1_isOfKind msX1_isOfKind rfl rfl (kX1_isOfKind ⟨rfl, ?_⟩)
      refine V_ifeq (tgt := 44) dX6_as_33 (by decide) (fun c33 => ?_) (fun c33 => ?_)
      · skip
        refine V_ald0 dX6_as_44 ?_
        refine V_iconst (v := nI 3) dX6_as_45 (by decide) ?_
        refine V_iv1 dX6_as_46 wlX6_70 mdX6_found miX6_found rfl (hS.r0.1 0 (0, 6) rfl) rfl rfl (kX6_found hS ⟨rfl, ?_⟩)
        refine V_ireturn dX6_as_49 ⟨_, rfl, vp_nar_int _⟩ ?_
        rw [if_pos c33] at hkd
        rw [hkd, if_neg (by decide)] at hQ
        exact hQ
      · skip
        refine V_ald0 dX6_as_36 ?_
        refine V_ild1 dX6_as_37 ?_
        refine V_iv1 dX6_as_38 wlX6_78 mdX6_foundNone miX6_foundNone rfl (hS.r0.1 0 (0, 6) rfl) rfl rfl (kX6_foundNone hS ⟨rfl, ?_⟩)
        refine V_goto (tgt := 49) dX6_as_41 (by decide) ?_
        refine V_ireturn dX6_as_49 ⟨_, rfl, vp_nar_int _⟩ ?_
        rw [if_neg c33] at hkd
        rw [hkd, if_pos rfl] at hQ
        exact hQ
    · skip
      refine V_ldc dX6_as_17 wkX6_69 ?_
      refine V_ireturn dX6_as_19 ⟨_, rfl, vp_nar_int _⟩ ?_
      rw [if_neg (fun h => c14 h.2), if_neg (fun h => c14 h.2)] at hQ
      exact hQ
end K6
