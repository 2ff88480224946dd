/-! WHAT THE TABLES SAY, a row a word, by its place -/
theorem ncX0 : ∀ j, j < 3 → ∃ bo, (xF 0)[j]? = some bo ∧ (bo = false → tyX0 j = .int) ∧ (bo = true → (∃ n, tyX0 j = .object n) ∨ ∃ t, tyX0 j = .array t) := by
  intro j hj
  rcases (show j = 0 ∨ j = 1 ∨ j = 2 by omega) with rfl | rfl | rfl
  · exact ⟨true, rfl, (fun h => nomatch h), fun _ => Or.inr ⟨_, rfl⟩⟩
  · exact ⟨false, rfl, fun _ => rfl, (fun h => nomatch h)⟩
  · exact ⟨false, rfl, fun _ => rfl, (fun h => nomatch h)⟩
theorem ncX1 : ∀ j, j < 2 → ∃ bo, (xF 1)[j]? = some bo ∧ (bo = false → tyX1 j = .int) ∧ (bo = true → (∃ n, tyX1 j = .object n) ∨ ∃ t, tyX1 j = .array t) := by
  intro j hj
  rcases (show j = 0 ∨ j = 1 by omega) with rfl | rfl
  · exact ⟨true, rfl, (fun h => nomatch h), fun _ => Or.inr ⟨_, rfl⟩⟩
  · exact ⟨false, rfl, fun _ => rfl, (fun h => nomatch h)⟩
theorem ncX2 : ∀ j, j < 3 → ∃ bo, (xF 2)[j]? = some bo ∧ (bo = false → tyX2 j = .int) ∧ (bo = true → (∃ n, tyX2 j = .object n) ∨ ∃ t, tyX2 j = .array t) := by
  intro j hj
  rcases (show j = 0 ∨ j = 1 ∨ j = 2 by omega) with rfl | rfl | rfl
  · exact ⟨true, rfl, (fun h => nomatch h), fun _ => Or.inr ⟨_, rfl⟩⟩
  · exact ⟨true, rfl, (fun h => nomatch h), fun _ => Or.inr ⟨_, rfl⟩⟩
  · exact ⟨true, rfl, (fun h => nomatch h), fun _ => Or.inr ⟨_, rfl⟩⟩
theorem ncX3 : ∀ j, j < 11 → ∃ bo, (xF 3)[j]? = some bo ∧ (bo = false → tyX3 j = .int) ∧ (bo = true → (∃ n, tyX3 j = .object n) ∨ ∃ t, tyX3 j = .array t) := by
  intro j hj
  rcases (show j = 0 ∨ j = 1 ∨ j = 2 ∨ j = 3 ∨ j = 4 ∨ j = 5 ∨ j = 6 ∨ j = 7 ∨ j = 8 ∨ j = 9 ∨ j = 10 by omega) with rfl | rfl | rfl | rfl | rfl | rfl | rfl | rfl | rfl | rfl | rfl
  · exact ⟨true, rfl, (fun h => nomatch h), fun _ => Or.inl ⟨_, rfl⟩⟩
  · exact ⟨true, rfl, (fun h => nomatch h), fun _ => Or.inr ⟨_, rfl⟩⟩
  · exact ⟨true, rfl, (fun h => nomatch h), fun _ => Or.inr ⟨_, rfl⟩⟩
  · exact ⟨true, rfl, (fun h => nomatch h), fun _ => Or.inr ⟨_, rfl⟩⟩
  · exact ⟨true, rfl, (fun h => nomatch h), fun _ => Or.inr ⟨_, rfl⟩⟩
  · exact ⟨true, rfl, (fun h => nomatch h), fun _ => Or.inr ⟨_, rfl⟩⟩
  · exact ⟨true, rfl, (fun h => nomatch h), fun _ => Or.inr ⟨_, rfl⟩⟩
  · exact ⟨false, rfl, fun _ => rfl, (fun h => nomatch h)⟩
  · exact ⟨false, rfl, fun _ => rfl, (fun h => nomatch h)⟩
  · exact ⟨false, rfl, fun _ => rfl, (fun h => nomatch h)⟩
  · exact ⟨false, rfl, fun _ => rfl, (fun h => nomatch h)⟩
theorem ncX4 : ∀ j, j < 5 → ∃ bo, (xF 4)[j]? = some bo ∧ (bo = false → tyX4 j = .int) ∧ (bo = true → (∃ n, tyX4 j = .object n) ∨ ∃ t, tyX4 j = .array t) := by
  intro j hj
  rcases (show j = 0 ∨ j = 1 ∨ j = 2 ∨ j = 3 ∨ j = 4 by omega) with rfl | rfl | rfl | rfl | rfl
  · exact ⟨true, rfl, (fun h => nomatch h), fun _ => Or.inr ⟨_, rfl⟩⟩
  · exact ⟨false, rfl, fun _ => rfl, (fun h => nomatch h)⟩
  · exact ⟨false, rfl, fun _ => rfl, (fun h => nomatch h)⟩
  · exact ⟨false, rfl, fun _ => rfl, (fun h => nomatch h)⟩
  · exact ⟨false, rfl, fun _ => rfl, (fun h => nomatch h)⟩
theorem ncX5 : ∀ j, j < 15 → ∃ bo, (xF 5)[j]? = some bo ∧ (bo = false → tyX5 j = .int) ∧ (bo = true → (∃ n, tyX5 j = .object n) ∨ ∃ t, tyX5 j = .array t) := by
  intro j hj
  rcases (show j = 0 ∨ j = 1 ∨ j = 2 ∨ j = 3 ∨ j = 4 ∨ j = 5 ∨ j = 6 ∨ j = 7 ∨ j = 8 ∨ j = 9 ∨ j = 10 ∨ j = 11 ∨ j = 12 ∨ j = 13 ∨ j = 14 by omega) with rfl | rfl | rfl | rfl | rfl | rfl | rfl | rfl | rfl | rfl | rfl | rfl | rfl | rfl | rfl
  · exact ⟨false, rfl, fun _ => rfl, (fun h => nomatch h)⟩
  · exact ⟨false, rfl, fun _ => rfl, (fun h => nomatch h)⟩
  · exact ⟨false, rfl, fun _ => rfl, (fun h => nomatch h)⟩
  · exact ⟨false, rfl, fun _ => rfl, (fun h => nomatch h)⟩
  · exact ⟨false, rfl, fun _ => rfl, (fun h => nomatch h)⟩
  · exact ⟨true, rfl, (fun h => nomatch h), fun _ => Or.inr ⟨_, rfl⟩⟩
  · exact ⟨true, rfl, (fun h => nomatch h), fun _ => Or.inr ⟨_, rfl⟩⟩
  · exact ⟨true, rfl, (fun h => nomatch h), fun _ => Or.inr ⟨_, rfl⟩⟩
  · exact ⟨true, rfl, (fun h => nomatch h), fun _ => Or.inr ⟨_, rfl⟩⟩
  · exact ⟨true, rfl, (fun h => nomatch h), fun _ => Or.inr ⟨_, rfl⟩⟩
  · exact ⟨true, rfl, (fun h => nomatch h), fun _ => Or.inr ⟨_, rfl⟩⟩
  · exact ⟨true, rfl, (fun h => nomatch h), fun _ => Or.inr ⟨_, rfl⟩⟩
  · exact ⟨true, rfl, (fun h => nomatch h), fun _ => Or.inr ⟨_, rfl⟩⟩
  · exact ⟨true, rfl, (fun h => nomatch h), fun _ => Or.inr ⟨_, rfl⟩⟩
  · exact ⟨true, rfl, (fun h => nomatch h), fun _ => Or.inr ⟨_, rfl⟩⟩
theorem ncX6 : ∀ j, j < 10 → ∃ bo, (xF 6)[j]? = some bo ∧ (bo = false → tyX6 j = .int) ∧ (bo = true → (∃ n, tyX6 j = .object n) ∨ ∃ t, tyX6 j = .array t) := by
  intro j hj
  rcases (show j = 0 ∨ j = 1 ∨ j = 2 ∨ j = 3 ∨ j = 4 ∨ j = 5 ∨ j = 6 ∨ j = 7 ∨ j = 8 ∨ j = 9 by omega) with rfl | rfl | rfl | rfl | rfl | rfl | rfl | rfl | rfl | rfl
  · exact ⟨true, rfl, (fun h => nomatch h), fun _ => Or.inl ⟨_, rfl⟩⟩
  · exact ⟨true, rfl, (fun h => nomatch h), fun _ => Or.inl ⟨_, rfl⟩⟩
  · exact ⟨true, rfl, (fun h => nomatch h), fun _ => Or.inl ⟨_, rfl⟩⟩
  · exact ⟨true, rfl, (fun h => nomatch h), fun _ => Or.inl ⟨_, rfl⟩⟩
  · exact ⟨true, rfl, (fun h => nomatch h), fun _ => Or.inl ⟨_, rfl⟩⟩
  · exact ⟨true, rfl, (fun h => nomatch h), fun _ => Or.inl ⟨_, rfl⟩⟩
  · exact ⟨true, rfl, (fun h => nomatch h), fun _ => Or.inl ⟨_, rfl⟩⟩
  · exact ⟨true, rfl, (fun h => nomatch h), fun _ => Or.inr ⟨_, rfl⟩⟩
  · exact ⟨false, rfl, fun _ => rfl, (fun h => nomatch h)⟩
  · exact ⟨false, rfl, fun _ => rfl, (fun h => nomatch h)⟩
theorem ncX7 : ∀ j, j < 32 → ∃ bo, (xF 7)[j]? = some bo ∧ (bo = false → tyX7 j = .int) ∧ (bo = true → (∃ n, tyX7 j = .object n) ∨ ∃ t, tyX7 j = .array t) := by
  intro j hj
  rcases (show j = 0 ∨ j = 1 ∨ j = 2 ∨ j = 3 ∨ j = 4 ∨ j = 5 ∨ j = 6 ∨ j = 7 ∨ j = 8 ∨ j = 9 ∨ j = 10 ∨ j = 11 ∨ j = 12 ∨ j = 13 ∨ j = 14 ∨ j = 15 ∨ j = 16 ∨ j = 17 ∨ j = 18 ∨ j = 19 ∨ j = 20 ∨ j = 21 ∨ j = 22 ∨ j = 23 ∨ j = 24 ∨ j = 25 ∨ j = 26 ∨ j = 27 ∨ j = 28 ∨ j = 29 ∨ j = 30 ∨ j = 31 by omega) with rfl | rfl | rfl | rfl | rfl | rfl | rfl | rfl | rfl | rfl | rfl | rfl | rfl | rfl | rfl | rfl | rfl | rfl | rfl | rfl | rfl | rfl | rfl | rfl | rfl | rfl | rfl | rfl | rfl | rfl | rfl | rfl
  · exact ⟨true, rfl, (fun h => nomatch h), fun _ => Or.inr ⟨_, rfl⟩⟩
  · exact ⟨true, rfl, (fun h => nomatch h), fun _ => Or.inr ⟨_, rfl⟩⟩
  · exact ⟨true, rfl, (fun h => nomatch h), fun _ => Or.inr ⟨_, rfl⟩⟩
  · exact ⟨false, rfl, fun _ => rfl, (fun h => nomatch h)⟩
  · exact ⟨true, rfl, (fun h => nomatch h), fun _ => Or.inr ⟨_, rfl⟩⟩
  · exact ⟨false, rfl, fun _ => rfl, (fun h => nomatch h)⟩
  · exact ⟨false, rfl, fun _ => rfl, (fun h => nomatch h)⟩
  · exact ⟨false, rfl, fun _ => rfl, (fun h => nomatch h)⟩
  · exact ⟨false, rfl, fun _ => rfl, (fun h => nomatch h)⟩
  · exact ⟨false, rfl, fun _ => rfl, (fun h => nomatch h)⟩
  · exact ⟨true, rfl, (fun h => nomatch h), fun _ => Or.inr ⟨_, rfl⟩⟩
  · exact ⟨false, rfl, fun _ => rfl, (fun h => nomatch h)⟩
  · exact ⟨true, rfl, (fun h => nomatch h), fun _ => Or.inr ⟨_, rfl⟩⟩
  · exact ⟨true, rfl, (fun h => nomatch h), fun _ => Or.inr ⟨_, rfl⟩⟩
  · exact ⟨false, rfl, fun _ => rfl, (fun h => nomatch h)⟩
  · exact ⟨true, rfl, (fun h => nomatch h), fun _ => Or.inr ⟨_, rfl⟩⟩
  · exact ⟨true, rfl, (fun h => nomatch h), fun _ => Or.inr ⟨_, rfl⟩⟩
  · exact ⟨true, rfl, (fun h => nomatch h), fun _ => Or.inr ⟨_, rfl⟩⟩
  · exact ⟨true, rfl, (fun h => nomatch h), fun _ => Or.inr ⟨_, rfl⟩⟩
  · exact ⟨true, rfl, (fun h => nomatch h), fun _ => Or.inr ⟨_, rfl⟩⟩
  · exact ⟨false, rfl, fun _ => rfl, (fun h => nomatch h)⟩
  · exact ⟨false, rfl, fun _ => rfl, (fun h => nomatch h)⟩
  · exact ⟨false, rfl, fun _ => rfl, (fun h => nomatch h)⟩
  · exact ⟨false, rfl, fun _ => rfl, (fun h => nomatch h)⟩
  · exact ⟨false, rfl, fun _ => rfl, (fun h => nomatch h)⟩
  · exact ⟨false, rfl, fun _ => rfl, (fun h => nomatch h)⟩
  · exact ⟨false, rfl, fun _ => rfl, (fun h => nomatch h)⟩
  · exact ⟨true, rfl, (fun h => nomatch h), fun _ => Or.inr ⟨_, rfl⟩⟩
  · exact ⟨true, rfl, (fun h => nomatch h), fun _ => Or.inr ⟨_, rfl⟩⟩
  · exact ⟨true, rfl, (fun h => nomatch h), fun _ => Or.inr ⟨_, rfl⟩⟩
  · exact ⟨true, rfl, (fun h => nomatch h), fun _ => Or.inr ⟨_, rfl⟩⟩
  · exact ⟨true, rfl, (fun h => nomatch h), fun _ => Or.inr ⟨_, rfl⟩⟩
theorem xinX0 : ∀ w ∈ u_ws RX0 TX0 3, w ∈ xWd := fun w h => xWd_in ((by decide +kernel : ∀ w ∈ u_ws RX0 TX0 3, w ∈ lw_tbl) w h) ((by decide +kernel : ∀ w ∈ u_ws RX0 TX0 3, goodWord w = true) w h)
theorem xinX1 : ∀ w ∈ u_ws RX1 TX1 2, w ∈ xWd := fun w h => xWd_in ((by decide +kernel : ∀ w ∈ u_ws RX1 TX1 2, w ∈ lw_tbl) w h) ((by decide +kernel : ∀ w ∈ u_ws RX1 TX1 2, goodWord w = true) w h)
theorem xinX2 : ∀ w ∈ u_ws RX2 TX2 3, w ∈ xWd := fun w h => xWd_in ((by decide +kernel : ∀ w ∈ u_ws RX2 TX2 3, w ∈ lw_tbl) w h) ((by decide +kernel : ∀ w ∈ u_ws RX2 TX2 3, goodWord w = true) w h)
theorem xinX3 : ∀ w ∈ u_ws RX3 TX3 11, w ∈ xWd := fun w h => xWd_in ((by decide +kernel : ∀ w ∈ u_ws RX3 TX3 11, w ∈ lw_tbl) w h) ((by decide +kernel : ∀ w ∈ u_ws RX3 TX3 11, goodWord w = true) w h)
theorem xinX4 : ∀ w ∈ u_ws RX4 TX4 5, w ∈ xWd := fun w h => xWd_in ((by decide +kernel : ∀ w ∈ u_ws RX4 TX4 5, w ∈ lw_tbl) w h) ((by decide +kernel : ∀ w ∈ u_ws RX4 TX4 5, goodWord w = true) w h)
theorem xinX5 : ∀ w ∈ u_ws RX5 TX5 15, w ∈ xWd := fun w h => xWd_in ((by decide +kernel : ∀ w ∈ u_ws RX5 TX5 15, w ∈ lw_tbl) w h) ((by decide +kernel : ∀ w ∈ u_ws RX5 TX5 15, goodWord w = true) w h)
theorem xinX6 : ∀ w ∈ u_ws RX6 TX6 10, w ∈ xWd := fun w h => xWd_in ((by decide +kernel : ∀ w ∈ u_ws RX6 TX6 10, w ∈ lw_tbl) w h) ((by decide +kernel : ∀ w ∈ u_ws RX6 TX6 10, goodWord w = true) w h)
theorem xinX7 : ∀ w ∈ u_ws RX7 TX7 32, w ∈ xWd := fun w h => xWd_in ((by decide +kernel : ∀ w ∈ u_ws RX7 TX7 32, w ∈ lw_tbl) w h) ((by decide +kernel : ∀ w ∈ u_ws RX7 TX7 32, goodWord w = true) w h)
theorem wcL_7 : Cond.classLink RL 7 "MarbleRun" ∈ xWd := xWd_in (List.mem_of_getElem? (i := 100) (by decide +kernel)) rfl
theorem ncL_7 : xNc RL 7 6 10 := ⟨RX6, TX6, tyX6, rfl, wcL_7, xWd_in (List.mem_of_getElem? (i := 101) (by decide +kernel)) rfl, xWd_in (List.mem_of_getElem? (i := 88) (by decide +kernel)) rfl, xinX6, tyX6_ok, ncX6⟩
theorem wlL_9 : Cond.methodLink RL 9 yX6_init ∈ xWd := xWd_in (List.mem_of_getElem? (i := 102) (by decide +kernel)) rfl
theorem mdX6_init : xMd yX6_init cX6_init 1 none 0 := ⟨by decide +kernel, xWd_in (List.mem_of_getElem? (i := 104) (by decide +kernel)) rfl, xWd_in (List.mem_of_getElem? (i := 88) (by decide +kernel)) rfl, by decide +kernel, by decide⟩
theorem miX6_init : Cond.instanceMethod yX6_init ∈ xWd ∧ yX6_init.name = "<init>" := ⟨xWd_in (List.mem_of_getElem? (i := 103) (by decide +kernel)) rfl, rfl⟩
theorem wlX6_1 : Cond.methodLink RX6 1 objectInit ∈ xWd := xWd_in (List.mem_of_getElem? (i := 105) (by decide +kernel)) rfl
theorem wcX6_7 : Cond.classLink RX6 7 "MarbleRun$Rows" ∈ xWd := xWd_in (List.mem_of_getElem? (i := 108) (by decide +kernel)) rfl
theorem ncX6_7 : xNc RX6 7 2 3 := ⟨RX2, TX2, tyX2, rfl, wcX6_7, xWd_in (List.mem_of_getElem? (i := 109) (by decide +kernel)) rfl, xWd_in (List.mem_of_getElem? (i := 89) (by decide +kernel)) rfl, xinX2, tyX2_ok, ncX2⟩
theorem wlX6_9 : Cond.methodLink RX6 9 yX2_init ∈ xWd := xWd_in (List.mem_of_getElem? (i := 110) (by decide +kernel)) rfl
theorem mdX2_init : xMd yX2_init cX2_init 1 none 0 := ⟨by decide +kernel, xWd_in (List.mem_of_getElem? (i := 112) (by decide +kernel)) rfl, xWd_in (List.mem_of_getElem? (i := 89) (by decide +kernel)) rfl, by decide +kernel, by decide⟩
theorem miX2_init : Cond.instanceMethod yX2_init ∈ xWd ∧ yX2_init.name = "<init>" := ⟨xWd_in (List.mem_of_getElem? (i := 111) (by decide +kernel)) rfl, rfl⟩
theorem wlX2_1 : Cond.methodLink RX2 1 objectInit ∈ xWd := xWd_in (List.mem_of_getElem? (i := 113) (by decide +kernel)) rfl
theorem wcX2_9 : Cond.classLink RX2 9 "[[I" ∈ xWd := xWd_in (List.mem_of_getElem? (i := 114) (by decide +kernel)) rfl
theorem wlX2_21 : Cond.methodLink RX2 21 yJ7_fill_53178 ∈ xWd := xWd_in (List.mem_of_getElem? (i := 116) (by decide +kernel)) rfl
theorem mdJ7_fill_53178 : xMd yJ7_fill_53178 cJ7_fill_53178 4 none 2 := ⟨by decide +kernel, xWd_in (List.mem_of_getElem? (i := 118) (by decide +kernel)) rfl, xWd_in (List.mem_of_getElem? (i := 90) (by decide +kernel)) rfl, by decide +kernel, by decide⟩
theorem msJ7_fill_53178 : Cond.static yJ7_fill_53178 ∈ xWd := xWd_in (List.mem_of_getElem? (i := 117) (by decide +kernel)) rfl
theorem flX2_11 : xFl0 RX2 11 2 0 true := ⟨RX2, TX2, 3, tyX2, rfl, by decide, xWd_in (List.mem_of_getElem? (i := 119) (by decide +kernel)) rfl, xinX2, tyX2_ok, nmX2, rfl⟩
theorem fwX2_11 : xFl RX2 11 2 0 true true := ⟨RX2, TX2, 3, tyX2, rfl, by decide, xWd_in (List.mem_of_getElem? (i := 119) (by decide +kernel)) rfl, xinX2, tyX2_ok, nmX2, rfl, rfl, (fun h => nomatch h), fun _ => Or.inr ⟨_, rfl⟩, fun _ => rfl⟩
theorem flX2_14 : xFl0 RX2 14 2 1 true := ⟨RX2, TX2, 3, tyX2, rfl, by decide, xWd_in (List.mem_of_getElem? (i := 120) (by decide +kernel)) rfl, xinX2, tyX2_ok, nmX2, rfl⟩
theorem fwX2_14 : xFl RX2 14 2 1 true true := ⟨RX2, TX2, 3, tyX2, rfl, by decide, xWd_in (List.mem_of_getElem? (i := 120) (by decide +kernel)) rfl, xinX2, tyX2_ok, nmX2, rfl, rfl, (fun h => nomatch h), fun _ => Or.inr ⟨_, rfl⟩, fun _ => rfl⟩
theorem flX2_18 : xFl0 RX2 18 2 2 true := ⟨RX2, TX2, 3, tyX2, rfl, by decide, xWd_in (List.mem_of_getElem? (i := 121) (by decide +kernel)) rfl, xinX2, tyX2_ok, nmX2, rfl⟩
theorem fwX2_18 : xFl RX2 18 2 2 true true := ⟨RX2, TX2, 3, tyX2, rfl, by decide, xWd_in (List.mem_of_getElem? (i := 121) (by decide +kernel)) rfl, xinX2, tyX2_ok, nmX2, rfl, rfl, (fun h => nomatch h), fun _ => Or.inr ⟨_, rfl⟩, fun _ => rfl⟩
theorem wcX6_16 : Cond.classLink RX6 16 "MarbleRun$Tape" ∈ xWd := xWd_in (List.mem_of_getElem? (i := 130) (by decide +kernel)) rfl
theorem ncX6_16 : xNc RX6 16 4 5 := ⟨RX4, TX4, tyX4, rfl, wcX6_16, xWd_in (List.mem_of_getElem? (i := 131) (by decide +kernel)) rfl, xWd_in (List.mem_of_getElem? (i := 91) (by decide +kernel)) rfl, xinX4, tyX4_ok, ncX4⟩
theorem wnX6_18 : Cond.methodLinkNest RX6 18 yX4_init "MarbleRun" ∈ xNest := List.mem_filter.mpr ⟨List.mem_of_getElem? (i := 132) (by decide +kernel), rfl⟩
theorem mdX4_init : xMd yX4_init cX4_init 1 none 0 := ⟨by decide +kernel, xWd_in (List.mem_of_getElem? (i := 134) (by decide +kernel)) rfl, xWd_in (List.mem_of_getElem? (i := 91) (by decide +kernel)) rfl, by decide +kernel, by decide⟩
theorem miX4_init : Cond.instanceMethod yX4_init ∈ xWd ∧ yX4_init.name = "<init>" := ⟨xWd_in (List.mem_of_getElem? (i := 133) (by decide +kernel)) rfl, rfl⟩
theorem wlX4_3 : Cond.methodLink RX4 3 objectInit ∈ xWd := xWd_in (List.mem_of_getElem? (i := 135) (by decide +kernel)) rfl
theorem flX4_11 : xFl0 RX4 11 4 0 true := ⟨RX4, TX4, 5, tyX4, rfl, by decide, xWd_in (List.mem_of_getElem? (i := 136) (by decide +kernel)) rfl, xinX4, tyX4_ok, nmX4, rfl⟩
theorem fwX4_11 : xFl RX4 11 4 0 true true := ⟨RX4, TX4, 5, tyX4, rfl, by decide, xWd_in (List.mem_of_getElem? (i := 136) (by decide +kernel)) rfl, xinX4, tyX4_ok, nmX4, rfl, rfl, (fun h => nomatch h), fun _ => Or.inr ⟨_, rfl⟩, fun _ => rfl⟩
theorem flX4_15 : xFl0 RX4 15 4 1 false := ⟨RX4, TX4, 5, tyX4, rfl, by decide, xWd_in (List.mem_of_getElem? (i := 137) (by decide +kernel)) rfl, xinX4, tyX4_ok, nmX4, rfl⟩
theorem fwX4_15 : xFl RX4 15 4 1 false false := ⟨RX4, TX4, 5, tyX4, rfl, by decide, xWd_in (List.mem_of_getElem? (i := 137) (by decide +kernel)) rfl, xinX4, tyX4_ok, nmX4, rfl, rfl, fun _ => rfl, (fun h => nomatch h), (fun h => nomatch h)⟩
theorem flX4_19 : xFl0 RX4 19 4 2 false := ⟨RX4, TX4, 5, tyX4, rfl, by decide, xWd_in (List.mem_of_getElem? (i := 138) (by decide +kernel)) rfl, xinX4, tyX4_ok, nmX4, rfl⟩
theorem fwX4_19 : xFl RX4 19 4 2 false false := ⟨RX4, TX4, 5, tyX4, rfl, by decide, xWd_in (List.mem_of_getElem? (i := 138) (by decide +kernel)) rfl, xinX4, tyX4_ok, nmX4, rfl, rfl, fun _ => rfl, (fun h => nomatch h), (fun h => nomatch h)⟩
theorem flX4_22 : xFl0 RX4 22 4 3 false := ⟨RX4, TX4, 5, tyX4, rfl, by decide, xWd_in (List.mem_of_getElem? (i := 139) (by decide +kernel)) rfl, xinX4, tyX4_ok, nmX4, rfl⟩
theorem fwX4_22 : xFl RX4 22 4 3 false false := ⟨RX4, TX4, 5, tyX4, rfl, by decide, xWd_in (List.mem_of_getElem? (i := 139) (by decide +kernel)) rfl, xinX4, tyX4_ok, nmX4, rfl, rfl, fun _ => rfl, (fun h => nomatch h), (fun h => nomatch h)⟩
theorem flX4_25 : xFl0 RX4 25 4 4 false := ⟨RX4, TX4, 5, tyX4, rfl, by decide, xWd_in (List.mem_of_getElem? (i := 140) (by decide +kernel)) rfl, xinX4, tyX4_ok, nmX4, rfl⟩
theorem fwX4_25 : xFl RX4 25 4 4 false false := ⟨RX4, TX4, 5, tyX4, rfl, by decide, xWd_in (List.mem_of_getElem? (i := 140) (by decide +kernel)) rfl, xinX4, tyX4_ok, nmX4, rfl, rfl, fun _ => rfl, (fun h => nomatch h), (fun h => nomatch h)⟩
theorem wcX6_23 : Cond.classLink RX6 23 "MarbleRun$Track" ∈ xWd := xWd_in (List.mem_of_getElem? (i := 152) (by decide +kernel)) rfl
theorem ncX6_23 : xNc RX6 23 5 15 := ⟨RX5, TX5, tyX5, rfl, wcX6_23, xWd_in (List.mem_of_getElem? (i := 153) (by decide +kernel)) rfl, xWd_in (List.mem_of_getElem? (i := 92) (by decide +kernel)) rfl, xinX5, tyX5_ok, ncX5⟩
theorem wnX6_25 : Cond.methodLinkNest RX6 25 yX5_init "MarbleRun" ∈ xNest := List.mem_filter.mpr ⟨List.mem_of_getElem? (i := 154) (by decide +kernel), rfl⟩
theorem mdX5_init : xMd yX5_init cX5_init 1 none 0 := ⟨by decide +kernel, xWd_in (List.mem_of_getElem? (i := 156) (by decide +kernel)) rfl, xWd_in (List.mem_of_getElem? (i := 92) (by decide +kernel)) rfl, by decide +kernel, by decide⟩
theorem miX5_init : Cond.instanceMethod yX5_init ∈ xWd ∧ yX5_init.name = "<init>" := ⟨xWd_in (List.mem_of_getElem? (i := 155) (by decide +kernel)) rfl, rfl⟩
theorem wlX5_3 : Cond.methodLink RX5 3 objectInit ∈ xWd := xWd_in (List.mem_of_getElem? (i := 157) (by decide +kernel)) rfl
theorem flX5_9 : xFl0 RX5 9 5 0 false := ⟨RX5, TX5, 15, tyX5, rfl, by decide, xWd_in (List.mem_of_getElem? (i := 158) (by decide +kernel)) rfl, xinX5, tyX5_ok, nmX5, rfl⟩
theorem fwX5_9 : xFl RX5 9 5 0 false false := ⟨RX5, TX5, 15, tyX5, rfl, by decide, xWd_in (List.mem_of_getElem? (i := 158) (by decide +kernel)) rfl, xinX5, tyX5_ok, nmX5, rfl, rfl, fun _ => rfl, (fun h => nomatch h), (fun h => nomatch h)⟩
theorem flX4_51 : xFl0 RX4 51 5 0 false := ⟨RX5, TX5, 15, tyX5, rfl, by decide, xWd_in (List.mem_of_getElem? (i := 159) (by decide +kernel)) rfl, xinX5, tyX5_ok, nmX5, rfl⟩
theorem fwX4_51 : xFl RX4 51 5 0 false false := ⟨RX5, TX5, 15, tyX5, rfl, by decide, xWd_in (List.mem_of_getElem? (i := 159) (by decide +kernel)) rfl, xinX5, tyX5_ok, nmX5, rfl, rfl, fun _ => rfl, (fun h => nomatch h), (fun h => nomatch h)⟩
theorem flX3_116 : xFl0 RX3 116 5 0 false := ⟨RX5, TX5, 15, tyX5, rfl, by decide, xWd_in (List.mem_of_getElem? (i := 160) (by decide +kernel)) rfl, xinX5, tyX5_ok, nmX5, rfl⟩
theorem fwX3_116 : xFl RX3 116 5 0 false false := ⟨RX5, TX5, 15, tyX5, rfl, by decide, xWd_in (List.mem_of_getElem? (i := 160) (by decide +kernel)) rfl, xinX5, tyX5_ok, nmX5, rfl, rfl, fun _ => rfl, (fun h => nomatch h), (fun h => nomatch h)⟩
theorem flX6_208 : xFl0 RX6 208 5 0 false := ⟨RX5, TX5, 15, tyX5, rfl, by decide, xWd_in (List.mem_of_getElem? (i := 161) (by decide +kernel)) rfl, xinX5, tyX5_ok, nmX5, rfl⟩
theorem fwX6_208 : xFl RX6 208 5 0 false false := ⟨RX5, TX5, 15, tyX5, rfl, by decide, xWd_in (List.mem_of_getElem? (i := 161) (by decide +kernel)) rfl, xinX5, tyX5_ok, nmX5, rfl, rfl, fun _ => rfl, (fun h => nomatch h), (fun h => nomatch h)⟩
theorem flX5_15 : xFl0 RX5 15 5 1 false := ⟨RX5, TX5, 15, tyX5, rfl, by decide, xWd_in (List.mem_of_getElem? (i := 162) (by decide +kernel)) rfl, xinX5, tyX5_ok, nmX5, rfl⟩
theorem fwX5_15 : xFl RX5 15 5 1 false false := ⟨RX5, TX5, 15, tyX5, rfl, by decide, xWd_in (List.mem_of_getElem? (i := 162) (by decide +kernel)) rfl, xinX5, tyX5_ok, nmX5, rfl, rfl, fun _ => rfl, (fun h => nomatch h), (fun h => nomatch h)⟩
theorem flX6_148 : xFl0 RX6 148 5 1 false := ⟨RX5, TX5, 15, tyX5, rfl, by decide, xWd_in (List.mem_of_getElem? (i := 163) (by decide +kernel)) rfl, xinX5, tyX5_ok, nmX5, rfl⟩
theorem fwX6_148 : xFl RX6 148 5 1 false false := ⟨RX5, TX5, 15, tyX5, rfl, by decide, xWd_in (List.mem_of_getElem? (i := 163) (by decide +kernel)) rfl, xinX5, tyX5_ok, nmX5, rfl, rfl, fun _ => rfl, (fun h => nomatch h), (fun h => nomatch h)⟩
theorem flX5_18 : xFl0 RX5 18 5 2 false := ⟨RX5, TX5, 15, tyX5, rfl, by decide, xWd_in (List.mem_of_getElem? (i := 164) (by decide +kernel)) rfl, xinX5, tyX5_ok, nmX5, rfl⟩
theorem fwX5_18 : xFl RX5 18 5 2 false false := ⟨RX5, TX5, 15, tyX5, rfl, by decide, xWd_in (List.mem_of_getElem? (i := 164) (by decide +kernel)) rfl, xinX5, tyX5_ok, nmX5, rfl, rfl, fun _ => rfl, (fun h => nomatch h), (fun h => nomatch h)⟩
theorem flX4_65 : xFl0 RX4 65 5 2 false := ⟨RX5, TX5, 15, tyX5, rfl, by decide, xWd_in (List.mem_of_getElem? (i := 165) (by decide +kernel)) rfl, xinX5, tyX5_ok, nmX5, rfl⟩
theorem fwX4_65 : xFl RX4 65 5 2 false false := ⟨RX5, TX5, 15, tyX5, rfl, by decide, xWd_in (List.mem_of_getElem? (i := 165) (by decide +kernel)) rfl, xinX5, tyX5_ok, nmX5, rfl, rfl, fun _ => rfl, (fun h => nomatch h), (fun h => nomatch h)⟩
theorem flX3_99 : xFl0 RX3 99 5 2 false := ⟨RX5, TX5, 15, tyX5, rfl, by decide, xWd_in (List.mem_of_getElem? (i := 166) (by decide +kernel)) rfl, xinX5, tyX5_ok, nmX5, rfl⟩
theorem fwX3_99 : xFl RX3 99 5 2 false false := ⟨RX5, TX5, 15, tyX5, rfl, by decide, xWd_in (List.mem_of_getElem? (i := 166) (by decide +kernel)) rfl, xinX5, tyX5_ok, nmX5, rfl, rfl, fun _ => rfl, (fun h => nomatch h), (fun h => nomatch h)⟩
theorem flX6_242 : xFl0 RX6 242 5 2 false := ⟨RX5, TX5, 15, tyX5, rfl, by decide, xWd_in (List.mem_of_getElem? (i := 167) (by decide +kernel)) rfl, xinX5, tyX5_ok, nmX5, rfl⟩
theorem fwX6_242 : xFl RX6 242 5 2 false false := ⟨RX5, TX5, 15, tyX5, rfl, by decide, xWd_in (List.mem_of_getElem? (i := 167) (by decide +kernel)) rfl, xinX5, tyX5_ok, nmX5, rfl, rfl, fun _ => rfl, (fun h => nomatch h), (fun h => nomatch h)⟩
theorem flX5_21 : xFl0 RX5 21 5 3 false := ⟨RX5, TX5, 15, tyX5, rfl, by decide, xWd_in (List.mem_of_getElem? (i := 168) (by decide +kernel)) rfl, xinX5, tyX5_ok, nmX5, rfl⟩
theorem fwX5_21 : xFl RX5 21 5 3 false false := ⟨RX5, TX5, 15, tyX5, rfl, by decide, xWd_in (List.mem_of_getElem? (i := 168) (by decide +kernel)) rfl, xinX5, tyX5_ok, nmX5, rfl, rfl, fun _ => rfl, (fun h => nomatch h), (fun h => nomatch h)⟩
theorem flX6_134 : xFl0 RX6 134 5 3 false := ⟨RX5, TX5, 15, tyX5, rfl, by decide, xWd_in (List.mem_of_getElem? (i := 169) (by decide +kernel)) rfl, xinX5, tyX5_ok, nmX5, rfl⟩
theorem fwX6_134 : xFl RX6 134 5 3 false false := ⟨RX5, TX5, 15, tyX5, rfl, by decide, xWd_in (List.mem_of_getElem? (i := 169) (by decide +kernel)) rfl, xinX5, tyX5_ok, nmX5, rfl, rfl, fun _ => rfl, (fun h => nomatch h), (fun h => nomatch h)⟩
theorem flX4_81 : xFl0 RX4 81 5 3 false := ⟨RX5, TX5, 15, tyX5, rfl, by decide, xWd_in (List.mem_of_getElem? (i := 170) (by decide +kernel)) rfl, xinX5, tyX5_ok, nmX5, rfl⟩
theorem fwX4_81 : xFl RX4 81 5 3 false false := ⟨RX5, TX5, 15, tyX5, rfl, by decide, xWd_in (List.mem_of_getElem? (i := 170) (by decide +kernel)) rfl, xinX5, tyX5_ok, nmX5, rfl, rfl, fun _ => rfl, (fun h => nomatch h), (fun h => nomatch h)⟩
theorem flX3_131 : xFl0 RX3 131 5 3 false := ⟨RX5, TX5, 15, tyX5, rfl, by decide, xWd_in (List.mem_of_getElem? (i := 171) (by decide +kernel)) rfl, xinX5, tyX5_ok, nmX5, rfl⟩
theorem fwX3_131 : xFl RX3 131 5 3 false false := ⟨RX5, TX5, 15, tyX5, rfl, by decide, xWd_in (List.mem_of_getElem? (i := 171) (by decide +kernel)) rfl, xinX5, tyX5_ok, nmX5, rfl, rfl, fun _ => rfl, (fun h => nomatch h), (fun h => nomatch h)⟩
theorem flX5_24 : xFl0 RX5 24 5 4 false := ⟨RX5, TX5, 15, tyX5, rfl, by decide, xWd_in (List.mem_of_getElem? (i := 172) (by decide +kernel)) rfl, xinX5, tyX5_ok, nmX5, rfl⟩
theorem fwX5_24 : xFl RX5 24 5 4 false false := ⟨RX5, TX5, 15, tyX5, rfl, by decide, xWd_in (List.mem_of_getElem? (i := 172) (by decide +kernel)) rfl, xinX5, tyX5_ok, nmX5, rfl, rfl, fun _ => rfl, (fun h => nomatch h), (fun h => nomatch h)⟩
theorem flX3_167 : xFl0 RX3 167 5 4 false := ⟨RX5, TX5, 15, tyX5, rfl, by decide, xWd_in (List.mem_of_getElem? (i := 173) (by decide +kernel)) rfl, xinX5, tyX5_ok, nmX5, rfl⟩
theorem fwX3_167 : xFl RX3 167 5 4 false false := ⟨RX5, TX5, 15, tyX5, rfl, by decide, xWd_in (List.mem_of_getElem? (i := 173) (by decide +kernel)) rfl, xinX5, tyX5_ok, nmX5, rfl, rfl, fun _ => rfl, (fun h => nomatch h), (fun h => nomatch h)⟩
theorem flX5_27 : xFl0 RX5 27 5 5 true := ⟨RX5, TX5, 15, tyX5, rfl, by decide, xWd_in (List.mem_of_getElem? (i := 174) (by decide +kernel)) rfl, xinX5, tyX5_ok, nmX5, rfl⟩
theorem fwX5_27 : xFl RX5 27 5 5 true true := ⟨RX5, TX5, 15, tyX5, rfl, by decide, xWd_in (List.mem_of_getElem? (i := 174) (by decide +kernel)) rfl, xinX5, tyX5_ok, nmX5, rfl, rfl, (fun h => nomatch h), fun _ => Or.inr ⟨_, rfl⟩, fun _ => rfl⟩
theorem flX4_68 : xFl0 RX4 68 5 5 true := ⟨RX5, TX5, 15, tyX5, rfl, by decide, xWd_in (List.mem_of_getElem? (i := 175) (by decide +kernel)) rfl, xinX5, tyX5_ok, nmX5, rfl⟩
theorem flX3_113 : xFl0 RX3 113 5 5 true := ⟨RX5, TX5, 15, tyX5, rfl, by decide, xWd_in (List.mem_of_getElem? (i := 176) (by decide +kernel)) rfl, xinX5, tyX5_ok, nmX5, rfl⟩
theorem flX6_190 : xFl0 RX6 190 5 5 true := ⟨RX5, TX5, 15, tyX5, rfl, by decide, xWd_in (List.mem_of_getElem? (i := 177) (by decide +kernel)) rfl, xinX5, tyX5_ok, nmX5, rfl⟩
theorem flX5_31 : xFl0 RX5 31 5 6 true := ⟨RX5, TX5, 15, tyX5, rfl, by decide, xWd_in (List.mem_of_getElem? (i := 178) (by decide +kernel)) rfl, xinX5, tyX5_ok, nmX5, rfl⟩
theorem fwX5_31 : xFl RX5 31 5 6 true true := ⟨RX5, TX5, 15, tyX5, rfl, by decide, xWd_in (List.mem_of_getElem? (i := 178) (by decide +kernel)) rfl, xinX5, tyX5_ok, nmX5, rfl, rfl, (fun h => nomatch h), fun _ => Or.inr ⟨_, rfl⟩, fun _ => rfl⟩
theorem flX4_71 : xFl0 RX4 71 5 6 true := ⟨RX5, TX5, 15, tyX5, rfl, by decide, xWd_in (List.mem_of_getElem? (i := 179) (by decide +kernel)) rfl, xinX5, tyX5_ok, nmX5, rfl⟩
theorem flX6_193 : xFl0 RX6 193 5 6 true := ⟨RX5, TX5, 15, tyX5, rfl, by decide, xWd_in (List.mem_of_getElem? (i := 180) (by decide +kernel)) rfl, xinX5, tyX5_ok, nmX5, rfl⟩
theorem flX5_34 : xFl0 RX5 34 5 7 true := ⟨RX5, TX5, 15, tyX5, rfl, by decide, xWd_in (List.mem_of_getElem? (i := 181) (by decide +kernel)) rfl, xinX5, tyX5_ok, nmX5, rfl⟩
theorem fwX5_34 : xFl RX5 34 5 7 true true := ⟨RX5, TX5, 15, tyX5, rfl, by decide, xWd_in (List.mem_of_getElem? (i := 181) (by decide +kernel)) rfl, xinX5, tyX5_ok, nmX5, rfl, rfl, (fun h => nomatch h), fun _ => Or.inr ⟨_, rfl⟩, fun _ => rfl⟩
theorem flX6_196 : xFl0 RX6 196 5 7 true := ⟨RX5, TX5, 15, tyX5, rfl, by decide, xWd_in (List.mem_of_getElem? (i := 182) (by decide +kernel)) rfl, xinX5, tyX5_ok, nmX5, rfl⟩
theorem flX3_170 : xFl0 RX3 170 5 7 true := ⟨RX5, TX5, 15, tyX5, rfl, by decide, xWd_in (List.mem_of_getElem? (i := 183) (by decide +kernel)) rfl, xinX5, tyX5_ok, nmX5, rfl⟩
theorem flX5_37 : xFl0 RX5 37 5 8 true := ⟨RX5, TX5, 15, tyX5, rfl, by decide, xWd_in (List.mem_of_getElem? (i := 184) (by decide +kernel)) rfl, xinX5, tyX5_ok, nmX5, rfl⟩
theorem fwX5_37 : xFl RX5 37 5 8 true true := ⟨RX5, TX5, 15, tyX5, rfl, by decide, xWd_in (List.mem_of_getElem? (i := 184) (by decide +kernel)) rfl, xinX5, tyX5_ok, nmX5, rfl, rfl, (fun h => nomatch h), fun _ => Or.inr ⟨_, rfl⟩, fun _ => rfl⟩
theorem flX1_23 : xFl0 RX1 23 5 8 true := ⟨RX5, TX5, 15, tyX5, rfl, by decide, xWd_in (List.mem_of_getElem? (i := 185) (by decide +kernel)) rfl, xinX5, tyX5_ok, nmX5, rfl⟩
theorem flX4_84 : xFl0 RX4 84 5 8 true := ⟨RX5, TX5, 15, tyX5, rfl, by decide, xWd_in (List.mem_of_getElem? (i := 186) (by decide +kernel)) rfl, xinX5, tyX5_ok, nmX5, rfl⟩
theorem flX3_154 : xFl0 RX3 154 5 8 true := ⟨RX5, TX5, 15, tyX5, rfl, by decide, xWd_in (List.mem_of_getElem? (i := 187) (by decide +kernel)) rfl, xinX5, tyX5_ok, nmX5, rfl⟩
theorem flX6_308 : xFl0 RX6 308 5 8 true := ⟨RX5, TX5, 15, tyX5, rfl, by decide, xWd_in (List.mem_of_getElem? (i := 188) (by decide +kernel)) rfl, xinX5, tyX5_ok, nmX5, rfl⟩
theorem flX5_40 : xFl0 RX5 40 5 9 true := ⟨RX5, TX5, 15, tyX5, rfl, by decide, xWd_in (List.mem_of_getElem? (i := 189) (by decide +kernel)) rfl, xinX5, tyX5_ok, nmX5, rfl⟩
theorem fwX5_40 : xFl RX5 40 5 9 true true := ⟨RX5, TX5, 15, tyX5, rfl, by decide, xWd_in (List.mem_of_getElem? (i := 189) (by decide +kernel)) rfl, xinX5, tyX5_ok, nmX5, rfl, rfl, (fun h => nomatch h), fun _ => Or.inr ⟨_, rfl⟩, fun _ => rfl⟩
theorem flX6_167 : xFl0 RX6 167 5 9 true := ⟨RX5, TX5, 15, tyX5, rfl, by decide, xWd_in (List.mem_of_getElem? (i := 190) (by decide +kernel)) rfl, xinX5, tyX5_ok, nmX5, rfl⟩
theorem flX4_87 : xFl0 RX4 87 5 9 true := ⟨RX5, TX5, 15, tyX5, rfl, by decide, xWd_in (List.mem_of_getElem? (i := 191) (by decide +kernel)) rfl, xinX5, tyX5_ok, nmX5, rfl⟩
theorem flX1_69 : xFl0 RX1 69 5 9 true := ⟨RX5, TX5, 15, tyX5, rfl, by decide, xWd_in (List.mem_of_getElem? (i := 192) (by decide +kernel)) rfl, xinX5, tyX5_ok, nmX5, rfl⟩
theorem flX3_160 : xFl0 RX3 160 5 9 true := ⟨RX5, TX5, 15, tyX5, rfl, by decide, xWd_in (List.mem_of_getElem? (i := 193) (by decide +kernel)) rfl, xinX5, tyX5_ok, nmX5, rfl⟩
theorem flX5_43 : xFl0 RX5 43 5 10 true := ⟨RX5, TX5, 15, tyX5, rfl, by decide, xWd_in (List.mem_of_getElem? (i := 194) (by decide +kernel)) rfl, xinX5, tyX5_ok, nmX5, rfl⟩
theorem fwX5_43 : xFl RX5 43 5 10 true true := ⟨RX5, TX5, 15, tyX5, rfl, by decide, xWd_in (List.mem_of_getElem? (i := 194) (by decide +kernel)) rfl, xinX5, tyX5_ok, nmX5, rfl, rfl, (fun h => nomatch h), fun _ => Or.inr ⟨_, rfl⟩, fun _ => rfl⟩
theorem flX6_174 : xFl0 RX6 174 5 10 true := ⟨RX5, TX5, 15, tyX5, rfl, by decide, xWd_in (List.mem_of_getElem? (i := 195) (by decide +kernel)) rfl, xinX5, tyX5_ok, nmX5, rfl⟩
theorem flX4_90 : xFl0 RX4 90 5 10 true := ⟨RX5, TX5, 15, tyX5, rfl, by decide, xWd_in (List.mem_of_getElem? (i := 196) (by decide +kernel)) rfl, xinX5, tyX5_ok, nmX5, rfl⟩
theorem flX5_46 : xFl0 RX5 46 5 11 true := ⟨RX5, TX5, 15, tyX5, rfl, by decide, xWd_in (List.mem_of_getElem? (i := 197) (by decide +kernel)) rfl, xinX5, tyX5_ok, nmX5, rfl⟩
theorem fwX5_46 : xFl RX5 46 5 11 true true := ⟨RX5, TX5, 15, tyX5, rfl, by decide, xWd_in (List.mem_of_getElem? (i := 197) (by decide +kernel)) rfl, xinX5, tyX5_ok, nmX5, rfl, rfl, (fun h => nomatch h), fun _ => Or.inr ⟨_, rfl⟩, fun _ => rfl⟩
theorem flX3_90 : xFl0 RX3 90 5 11 true := ⟨RX5, TX5, 15, tyX5, rfl, by decide, xWd_in (List.mem_of_getElem? (i := 198) (by decide +kernel)) rfl, xinX5, tyX5_ok, nmX5, rfl⟩
theorem flX6_177 : xFl0 RX6 177 5 11 true := ⟨RX5, TX5, 15, tyX5, rfl, by decide, xWd_in (List.mem_of_getElem? (i := 199) (by decide +kernel)) rfl, xinX5, tyX5_ok, nmX5, rfl⟩
theorem flX4_93 : xFl0 RX4 93 5 11 true := ⟨RX5, TX5, 15, tyX5, rfl, by decide, xWd_in (List.mem_of_getElem? (i := 200) (by decide +kernel)) rfl, xinX5, tyX5_ok, nmX5, rfl⟩
theorem flX5_49 : xFl0 RX5 49 5 12 true := ⟨RX5, TX5, 15, tyX5, rfl, by decide, xWd_in (List.mem_of_getElem? (i := 201) (by decide +kernel)) rfl, xinX5, tyX5_ok, nmX5, rfl⟩
theorem fwX5_49 : xFl RX5 49 5 12 true true := ⟨RX5, TX5, 15, tyX5, rfl, by decide, xWd_in (List.mem_of_getElem? (i := 201) (by decide +kernel)) rfl, xinX5, tyX5_ok, nmX5, rfl, rfl, (fun h => nomatch h), fun _ => Or.inr ⟨_, rfl⟩, fun _ => rfl⟩
theorem flX6_199 : xFl0 RX6 199 5 12 true := ⟨RX5, TX5, 15, tyX5, rfl, by decide, xWd_in (List.mem_of_getElem? (i := 202) (by decide +kernel)) rfl, xinX5, tyX5_ok, nmX5, rfl⟩
theorem flX5_52 : xFl0 RX5 52 5 13 true := ⟨RX5, TX5, 15, tyX5, rfl, by decide, xWd_in (List.mem_of_getElem? (i := 203) (by decide +kernel)) rfl, xinX5, tyX5_ok, nmX5, rfl⟩
theorem fwX5_52 : xFl RX5 52 5 13 true true := ⟨RX5, TX5, 15, tyX5, rfl, by decide, xWd_in (List.mem_of_getElem? (i := 203) (by decide +kernel)) rfl, xinX5, tyX5_ok, nmX5, rfl, rfl, (fun h => nomatch h), fun _ => Or.inr ⟨_, rfl⟩, fun _ => rfl⟩
theorem flX1_63 : xFl0 RX1 63 5 13 true := ⟨RX5, TX5, 15, tyX5, rfl, by decide, xWd_in (List.mem_of_getElem? (i := 204) (by decide +kernel)) rfl, xinX5, tyX5_ok, nmX5, rfl⟩
theorem flX6_202 : xFl0 RX6 202 5 13 true := ⟨RX5, TX5, 15, tyX5, rfl, by decide, xWd_in (List.mem_of_getElem? (i := 205) (by decide +kernel)) rfl, xinX5, tyX5_ok, nmX5, rfl⟩
theorem flX5_55 : xFl0 RX5 55 5 14 true := ⟨RX5, TX5, 15, tyX5, rfl, by decide, xWd_in (List.mem_of_getElem? (i := 206) (by decide +kernel)) rfl, xinX5, tyX5_ok, nmX5, rfl⟩
theorem fwX5_55 : xFl RX5 55 5 14 true true := ⟨RX5, TX5, 15, tyX5, rfl, by decide, xWd_in (List.mem_of_getElem? (i := 206) (by decide +kernel)) rfl, xinX5, tyX5_ok, nmX5, rfl, rfl, (fun h => nomatch h), fun _ => Or.inr ⟨_, rfl⟩, fun _ => rfl⟩
theorem flX6_205 : xFl0 RX6 205 5 14 true := ⟨RX5, TX5, 15, tyX5, rfl, by decide, xWd_in (List.mem_of_getElem? (i := 207) (by decide +kernel)) rfl, xinX5, tyX5_ok, nmX5, rfl⟩
theorem wcX6_33 : Cond.classLink RX6 33 "MarbleRun$Acts" ∈ xWd := xWd_in (List.mem_of_getElem? (i := 239) (by decide +kernel)) rfl
theorem ncX6_33 : xNc RX6 33 0 3 := ⟨RX0, TX0, tyX0, rfl, wcX6_33, xWd_in (List.mem_of_getElem? (i := 240) (by decide +kernel)) rfl, xWd_in (List.mem_of_getElem? (i := 93) (by decide +kernel)) rfl, xinX0, tyX0_ok, ncX0⟩
theorem wlX6_35 : Cond.methodLink RX6 35 yX0_init ∈ xWd := xWd_in (List.mem_of_getElem? (i := 241) (by decide +kernel)) rfl
theorem mdX0_init : xMd yX0_init cX0_init 2 none 0 := ⟨by decide +kernel, xWd_in (List.mem_of_getElem? (i := 243) (by decide +kernel)) rfl, xWd_in (List.mem_of_getElem? (i := 93) (by decide +kernel)) rfl, by decide +kernel, by decide⟩
theorem miX0_init : Cond.instanceMethod yX0_init ∈ xWd ∧ yX0_init.name = "<init>" := ⟨xWd_in (List.mem_of_getElem? (i := 242) (by decide +kernel)) rfl, rfl⟩
theorem wlX0_1 : Cond.methodLink RX0 1 objectInit ∈ xWd := xWd_in (List.mem_of_getElem? (i := 244) (by decide +kernel)) rfl
theorem wcX0_9 : Cond.classLink RX0 9 "MarbleRun$Track" ∈ xWd := xWd_in (List.mem_of_getElem? (i := 245) (by decide +kernel)) rfl
theorem ncX0_9 : xNc RX0 9 5 15 := ⟨RX5, TX5, tyX5, rfl, wcX0_9, xWd_in (List.mem_of_getElem? (i := 153) (by decide +kernel)) rfl, xWd_in (List.mem_of_getElem? (i := 92) (by decide +kernel)) rfl, xinX5, tyX5_ok, ncX5⟩
theorem wnX0_22 : Cond.methodLinkNest RX0 22 yX5_init "MarbleRun" ∈ xNest := List.mem_filter.mpr ⟨List.mem_of_getElem? (i := 247) (by decide +kernel), rfl⟩
theorem flX0_11 : xFl0 RX0 11 0 0 true := ⟨RX0, TX0, 3, tyX0, rfl, by decide, xWd_in (List.mem_of_getElem? (i := 248) (by decide +kernel)) rfl, xinX0, tyX0_ok, nmX0, rfl⟩
theorem fwX0_11 : xFl RX0 11 0 0 true true := ⟨RX0, TX0, 3, tyX0, rfl, by decide, xWd_in (List.mem_of_getElem? (i := 248) (by decide +kernel)) rfl, xinX0, tyX0_ok, nmX0, rfl, rfl, (fun h => nomatch h), fun _ => Or.inr ⟨_, rfl⟩, fun _ => rfl⟩
theorem flX0_15 : xFl0 RX0 15 0 1 false := ⟨RX0, TX0, 3, tyX0, rfl, by decide, xWd_in (List.mem_of_getElem? (i := 249) (by decide +kernel)) rfl, xinX0, tyX0_ok, nmX0, rfl⟩
theorem fwX0_15 : xFl RX0 15 0 1 false false := ⟨RX0, TX0, 3, tyX0, rfl, by decide, xWd_in (List.mem_of_getElem? (i := 249) (by decide +kernel)) rfl, xinX0, tyX0_ok, nmX0, rfl, rfl, fun _ => rfl, (fun h => nomatch h), (fun h => nomatch h)⟩
theorem flX0_19 : xFl0 RX0 19 0 2 false := ⟨RX0, TX0, 3, tyX0, rfl, by decide, xWd_in (List.mem_of_getElem? (i := 250) (by decide +kernel)) rfl, xinX0, tyX0_ok, nmX0, rfl⟩
theorem fwX0_19 : xFl RX0 19 0 2 false false := ⟨RX0, TX0, 3, tyX0, rfl, by decide, xWd_in (List.mem_of_getElem? (i := 250) (by decide +kernel)) rfl, xinX0, tyX0_ok, nmX0, rfl, rfl, fun _ => rfl, (fun h => nomatch h), (fun h => nomatch h)⟩
theorem wcX6_40 : Cond.classLink RX6 40 "MarbleRun$Seer" ∈ xWd := xWd_in (List.mem_of_getElem? (i := 258) (by decide +kernel)) rfl
theorem ncX6_40 : xNc RX6 40 3 11 := ⟨RX3, TX3, tyX3, rfl, wcX6_40, xWd_in (List.mem_of_getElem? (i := 259) (by decide +kernel)) rfl, xWd_in (List.mem_of_getElem? (i := 94) (by decide +kernel)) rfl, xinX3, tyX3_ok, ncX3⟩
theorem wnX6_42 : Cond.methodLinkNest RX6 42 yX3_init "MarbleRun" ∈ xNest := List.mem_filter.mpr ⟨List.mem_of_getElem? (i := 260) (by decide +kernel), rfl⟩
theorem mdX3_init : xMd yX3_init cX3_init 1 none 0 := ⟨by decide +kernel, xWd_in (List.mem_of_getElem? (i := 262) (by decide +kernel)) rfl, xWd_in (List.mem_of_getElem? (i := 94) (by decide +kernel)) rfl, by decide +kernel, by decide⟩
theorem miX3_init : Cond.instanceMethod yX3_init ∈ xWd ∧ yX3_init.name = "<init>" := ⟨xWd_in (List.mem_of_getElem? (i := 261) (by decide +kernel)) rfl, rfl⟩
theorem wlX3_3 : Cond.methodLink RX3 3 objectInit ∈ xWd := xWd_in (List.mem_of_getElem? (i := 263) (by decide +kernel)) rfl
theorem wcX3_9 : Cond.classLink RX3 9 "MarbleRun$Track" ∈ xWd := xWd_in (List.mem_of_getElem? (i := 264) (by decide +kernel)) rfl
theorem ncX3_9 : xNc RX3 9 5 15 := ⟨RX5, TX5, tyX5, rfl, wcX3_9, xWd_in (List.mem_of_getElem? (i := 153) (by decide +kernel)) rfl, xWd_in (List.mem_of_getElem? (i := 92) (by decide +kernel)) rfl, xinX5, tyX5_ok, ncX5⟩
theorem wnX3_11 : Cond.methodLinkNest RX3 11 yX5_init "MarbleRun" ∈ xNest := List.mem_filter.mpr ⟨List.mem_of_getElem? (i := 265) (by decide +kernel), rfl⟩
theorem flX3_12 : xFl0 RX3 12 3 0 true := ⟨RX3, TX3, 11, tyX3, rfl, by decide, xWd_in (List.mem_of_getElem? (i := 266) (by decide +kernel)) rfl, xinX3, tyX3_ok, nmX3, rfl⟩
theorem fwX3_12 : xFl RX3 12 3 0 true true := ⟨RX3, TX3, 11, tyX3, rfl, by decide, xWd_in (List.mem_of_getElem? (i := 266) (by decide +kernel)) rfl, xinX3, tyX3_ok, nmX3, rfl, rfl, (fun h => nomatch h), fun _ => Or.inl ⟨_, rfl⟩, fun _ => rfl⟩
theorem flX3_18 : xFl0 RX3 18 3 1 true := ⟨RX3, TX3, 11, tyX3, rfl, by decide, xWd_in (List.mem_of_getElem? (i := 267) (by decide +kernel)) rfl, xinX3, tyX3_ok, nmX3, rfl⟩
theorem fwX3_18 : xFl RX3 18 3 1 true true := ⟨RX3, TX3, 11, tyX3, rfl, by decide, xWd_in (List.mem_of_getElem? (i := 267) (by decide +kernel)) rfl, xinX3, tyX3_ok, nmX3, rfl, rfl, (fun h => nomatch h), fun _ => Or.inr ⟨_, rfl⟩, fun _ => rfl⟩
theorem flX3_22 : xFl0 RX3 22 3 2 true := ⟨RX3, TX3, 11, tyX3, rfl, by decide, xWd_in (List.mem_of_getElem? (i := 268) (by decide +kernel)) rfl, xinX3, tyX3_ok, nmX3, rfl⟩
theorem fwX3_22 : xFl RX3 22 3 2 true true := ⟨RX3, TX3, 11, tyX3, rfl, by decide, xWd_in (List.mem_of_getElem? (i := 268) (by decide +kernel)) rfl, xinX3, tyX3_ok, nmX3, rfl, rfl, (fun h => nomatch h), fun _ => Or.inr ⟨_, rfl⟩, fun _ => rfl⟩
theorem flX3_25 : xFl0 RX3 25 3 3 true := ⟨RX3, TX3, 11, tyX3, rfl, by decide, xWd_in (List.mem_of_getElem? (i := 269) (by decide +kernel)) rfl, xinX3, tyX3_ok, nmX3, rfl⟩
theorem fwX3_25 : xFl RX3 25 3 3 true true := ⟨RX3, TX3, 11, tyX3, rfl, by decide, xWd_in (List.mem_of_getElem? (i := 269) (by decide +kernel)) rfl, xinX3, tyX3_ok, nmX3, rfl, rfl, (fun h => nomatch h), fun _ => Or.inr ⟨_, rfl⟩, fun _ => rfl⟩
theorem flX3_28 : xFl0 RX3 28 3 4 true := ⟨RX3, TX3, 11, tyX3, rfl, by decide, xWd_in (List.mem_of_getElem? (i := 270) (by decide +kernel)) rfl, xinX3, tyX3_ok, nmX3, rfl⟩
theorem fwX3_28 : xFl RX3 28 3 4 true true := ⟨RX3, TX3, 11, tyX3, rfl, by decide, xWd_in (List.mem_of_getElem? (i := 270) (by decide +kernel)) rfl, xinX3, tyX3_ok, nmX3, rfl, rfl, (fun h => nomatch h), fun _ => Or.inr ⟨_, rfl⟩, fun _ => rfl⟩
theorem flX3_31 : xFl0 RX3 31 3 5 true := ⟨RX3, TX3, 11, tyX3, rfl, by decide, xWd_in (List.mem_of_getElem? (i := 271) (by decide +kernel)) rfl, xinX3, tyX3_ok, nmX3, rfl⟩
theorem fwX3_31 : xFl RX3 31 3 5 true true := ⟨RX3, TX3, 11, tyX3, rfl, by decide, xWd_in (List.mem_of_getElem? (i := 271) (by decide +kernel)) rfl, xinX3, tyX3_ok, nmX3, rfl, rfl, (fun h => nomatch h), fun _ => Or.inr ⟨_, rfl⟩, fun _ => rfl⟩
theorem flX3_34 : xFl0 RX3 34 3 6 true := ⟨RX3, TX3, 11, tyX3, rfl, by decide, xWd_in (List.mem_of_getElem? (i := 272) (by decide +kernel)) rfl, xinX3, tyX3_ok, nmX3, rfl⟩
theorem fwX3_34 : xFl RX3 34 3 6 true false := ⟨RX3, TX3, 11, tyX3, rfl, by decide, xWd_in (List.mem_of_getElem? (i := 272) (by decide +kernel)) rfl, xinX3, tyX3_ok, nmX3, rfl, rfl, (fun h => nomatch h), fun _ => Or.inr ⟨_, rfl⟩, (fun h => nomatch h)⟩
theorem flX3_37 : xFl0 RX3 37 3 7 false := ⟨RX3, TX3, 11, tyX3, rfl, by decide, xWd_in (List.mem_of_getElem? (i := 273) (by decide +kernel)) rfl, xinX3, tyX3_ok, nmX3, rfl⟩
theorem fwX3_37 : xFl RX3 37 3 7 false false := ⟨RX3, TX3, 11, tyX3, rfl, by decide, xWd_in (List.mem_of_getElem? (i := 273) (by decide +kernel)) rfl, xinX3, tyX3_ok, nmX3, rfl, rfl, fun _ => rfl, (fun h => nomatch h), (fun h => nomatch h)⟩
theorem flX3_41 : xFl0 RX3 41 3 8 false := ⟨RX3, TX3, 11, tyX3, rfl, by decide, xWd_in (List.mem_of_getElem? (i := 274) (by decide +kernel)) rfl, xinX3, tyX3_ok, nmX3, rfl⟩
theorem fwX3_41 : xFl RX3 41 3 8 false false := ⟨RX3, TX3, 11, tyX3, rfl, by decide, xWd_in (List.mem_of_getElem? (i := 274) (by decide +kernel)) rfl, xinX3, tyX3_ok, nmX3, rfl, rfl, fun _ => rfl, (fun h => nomatch h), (fun h => nomatch h)⟩
theorem flX3_44 : xFl0 RX3 44 3 9 false := ⟨RX3, TX3, 11, tyX3, rfl, by decide, xWd_in (List.mem_of_getElem? (i := 275) (by decide +kernel)) rfl, xinX3, tyX3_ok, nmX3, rfl⟩
theorem fwX3_44 : xFl RX3 44 3 9 false false := ⟨RX3, TX3, 11, tyX3, rfl, by decide, xWd_in (List.mem_of_getElem? (i := 275) (by decide +kernel)) rfl, xinX3, tyX3_ok, nmX3, rfl, rfl, fun _ => rfl, (fun h => nomatch h), (fun h => nomatch h)⟩
theorem flX3_47 : xFl0 RX3 47 3 10 false := ⟨RX3, TX3, 11, tyX3, rfl, by decide, xWd_in (List.mem_of_getElem? (i := 276) (by decide +kernel)) rfl, xinX3, tyX3_ok, nmX3, rfl⟩
theorem fwX3_47 : xFl RX3 47 3 10 false false := ⟨RX3, TX3, 11, tyX3, rfl, by decide, xWd_in (List.mem_of_getElem? (i := 276) (by decide +kernel)) rfl, xinX3, tyX3_ok, nmX3, rfl, rfl, fun _ => rfl, (fun h => nomatch h), (fun h => nomatch h)⟩
theorem wcX6_47 : Cond.classLink RX6 47 "MarbleRun$Asker" ∈ xWd := xWd_in (List.mem_of_getElem? (i := 300) (by decide +kernel)) rfl
theorem ncX6_47 : xNc RX6 47 1 2 := ⟨RX1, TX1, tyX1, rfl, wcX6_47, xWd_in (List.mem_of_getElem? (i := 301) (by decide +kernel)) rfl, xWd_in (List.mem_of_getElem? (i := 95) (by decide +kernel)) rfl, xinX1, tyX1_ok, ncX1⟩
theorem wnX6_49 : Cond.methodLinkNest RX6 49 yX1_init "MarbleRun" ∈ xNest := List.mem_filter.mpr ⟨List.mem_of_getElem? (i := 302) (by decide +kernel), rfl⟩
theorem mdX1_init : xMd yX1_init cX1_init 1 none 0 := ⟨by decide +kernel, xWd_in (List.mem_of_getElem? (i := 304) (by decide +kernel)) rfl, xWd_in (List.mem_of_getElem? (i := 95) (by decide +kernel)) rfl, by decide +kernel, by decide⟩
theorem miX1_init : Cond.instanceMethod yX1_init ∈ xWd ∧ yX1_init.name = "<init>" := ⟨xWd_in (List.mem_of_getElem? (i := 303) (by decide +kernel)) rfl, rfl⟩
theorem wlX1_3 : Cond.methodLink RX1 3 objectInit ∈ xWd := xWd_in (List.mem_of_getElem? (i := 305) (by decide +kernel)) rfl
theorem flX1_11 : xFl0 RX1 11 1 0 true := ⟨RX1, TX1, 2, tyX1, rfl, by decide, xWd_in (List.mem_of_getElem? (i := 306) (by decide +kernel)) rfl, xinX1, tyX1_ok, nmX1, rfl⟩
theorem fwX1_11 : xFl RX1 11 1 0 true true := ⟨RX1, TX1, 2, tyX1, rfl, by decide, xWd_in (List.mem_of_getElem? (i := 306) (by decide +kernel)) rfl, xinX1, tyX1_ok, nmX1, rfl, rfl, (fun h => nomatch h), fun _ => Or.inr ⟨_, rfl⟩, fun _ => rfl⟩
theorem flX1_15 : xFl0 RX1 15 1 1 false := ⟨RX1, TX1, 2, tyX1, rfl, by decide, xWd_in (List.mem_of_getElem? (i := 307) (by decide +kernel)) rfl, xinX1, tyX1_ok, nmX1, rfl⟩
theorem fwX1_15 : xFl RX1 15 1 1 false false := ⟨RX1, TX1, 2, tyX1, rfl, by decide, xWd_in (List.mem_of_getElem? (i := 307) (by decide +kernel)) rfl, xinX1, tyX1_ok, nmX1, rfl, rfl, fun _ => rfl, (fun h => nomatch h), (fun h => nomatch h)⟩
theorem flX6_10 : xFl0 RX6 10 6 0 true := ⟨RX6, TX6, 10, tyX6, rfl, by decide, xWd_in (List.mem_of_getElem? (i := 313) (by decide +kernel)) rfl, xinX6, tyX6_ok, nmX6, rfl⟩
theorem fwX6_10 : xFl RX6 10 6 0 true true := ⟨RX6, TX6, 10, tyX6, rfl, by decide, xWd_in (List.mem_of_getElem? (i := 313) (by decide +kernel)) rfl, xinX6, tyX6_ok, nmX6, rfl, rfl, (fun h => nomatch h), fun _ => Or.inl ⟨_, rfl⟩, fun _ => rfl⟩
theorem flX6_19 : xFl0 RX6 19 6 1 true := ⟨RX6, TX6, 10, tyX6, rfl, by decide, xWd_in (List.mem_of_getElem? (i := 314) (by decide +kernel)) rfl, xinX6, tyX6_ok, nmX6, rfl⟩
theorem fwX6_19 : xFl RX6 19 6 1 true true := ⟨RX6, TX6, 10, tyX6, rfl, by decide, xWd_in (List.mem_of_getElem? (i := 314) (by decide +kernel)) rfl, xinX6, tyX6_ok, nmX6, rfl, rfl, (fun h => nomatch h), fun _ => Or.inl ⟨_, rfl⟩, fun _ => rfl⟩
theorem flX6_26 : xFl0 RX6 26 6 2 true := ⟨RX6, TX6, 10, tyX6, rfl, by decide, xWd_in (List.mem_of_getElem? (i := 315) (by decide +kernel)) rfl, xinX6, tyX6_ok, nmX6, rfl⟩
theorem fwX6_26 : xFl RX6 26 6 2 true true := ⟨RX6, TX6, 10, tyX6, rfl, by decide, xWd_in (List.mem_of_getElem? (i := 315) (by decide +kernel)) rfl, xinX6, tyX6_ok, nmX6, rfl, rfl, (fun h => nomatch h), fun _ => Or.inl ⟨_, rfl⟩, fun _ => rfl⟩
theorem flX6_30 : xFl0 RX6 30 6 3 true := ⟨RX6, TX6, 10, tyX6, rfl, by decide, xWd_in (List.mem_of_getElem? (i := 316) (by decide +kernel)) rfl, xinX6, tyX6_ok, nmX6, rfl⟩
theorem fwX6_30 : xFl RX6 30 6 3 true true := ⟨RX6, TX6, 10, tyX6, rfl, by decide, xWd_in (List.mem_of_getElem? (i := 316) (by decide +kernel)) rfl, xinX6, tyX6_ok, nmX6, rfl, rfl, (fun h => nomatch h), fun _ => Or.inl ⟨_, rfl⟩, fun _ => rfl⟩
theorem flX6_36 : xFl0 RX6 36 6 4 true := ⟨RX6, TX6, 10, tyX6, rfl, by decide, xWd_in (List.mem_of_getElem? (i := 317) (by decide +kernel)) rfl, xinX6, tyX6_ok, nmX6, rfl⟩
theorem fwX6_36 : xFl RX6 36 6 4 true true := ⟨RX6, TX6, 10, tyX6, rfl, by decide, xWd_in (List.mem_of_getElem? (i := 317) (by decide +kernel)) rfl, xinX6, tyX6_ok, nmX6, rfl, rfl, (fun h => nomatch h), fun _ => Or.inl ⟨_, rfl⟩, fun _ => rfl⟩
theorem flX6_43 : xFl0 RX6 43 6 5 true := ⟨RX6, TX6, 10, tyX6, rfl, by decide, xWd_in (List.mem_of_getElem? (i := 318) (by decide +kernel)) rfl, xinX6, tyX6_ok, nmX6, rfl⟩
theorem fwX6_43 : xFl RX6 43 6 5 true true := ⟨RX6, TX6, 10, tyX6, rfl, by decide, xWd_in (List.mem_of_getElem? (i := 318) (by decide +kernel)) rfl, xinX6, tyX6_ok, nmX6, rfl, rfl, (fun h => nomatch h), fun _ => Or.inl ⟨_, rfl⟩, fun _ => rfl⟩
theorem flX6_50 : xFl0 RX6 50 6 6 true := ⟨RX6, TX6, 10, tyX6, rfl, by decide, xWd_in (List.mem_of_getElem? (i := 319) (by decide +kernel)) rfl, xinX6, tyX6_ok, nmX6, rfl⟩
theorem fwX6_50 : xFl RX6 50 6 6 true true := ⟨RX6, TX6, 10, tyX6, rfl, by decide, xWd_in (List.mem_of_getElem? (i := 319) (by decide +kernel)) rfl, xinX6, tyX6_ok, nmX6, rfl, rfl, (fun h => nomatch h), fun _ => Or.inl ⟨_, rfl⟩, fun _ => rfl⟩
theorem flX6_54 : xFl0 RX6 54 6 7 true := ⟨RX6, TX6, 10, tyX6, rfl, by decide, xWd_in (List.mem_of_getElem? (i := 320) (by decide +kernel)) rfl, xinX6, tyX6_ok, nmX6, rfl⟩
theorem fwX6_54 : xFl RX6 54 6 7 true true := ⟨RX6, TX6, 10, tyX6, rfl, by decide, xWd_in (List.mem_of_getElem? (i := 320) (by decide +kernel)) rfl, xinX6, tyX6_ok, nmX6, rfl, rfl, (fun h => nomatch h), fun _ => Or.inr ⟨_, rfl⟩, fun _ => rfl⟩
theorem flX6_58 : xFl0 RX6 58 6 8 false := ⟨RX6, TX6, 10, tyX6, rfl, by decide, xWd_in (List.mem_of_getElem? (i := 321) (by decide +kernel)) rfl, xinX6, tyX6_ok, nmX6, rfl⟩
theorem fwX6_58 : xFl RX6 58 6 8 false false := ⟨RX6, TX6, 10, tyX6, rfl, by decide, xWd_in (List.mem_of_getElem? (i := 321) (by decide +kernel)) rfl, xinX6, tyX6_ok, nmX6, rfl, rfl, fun _ => rfl, (fun h => nomatch h), (fun h => nomatch h)⟩
theorem flX6_62 : xFl0 RX6 62 6 9 false := ⟨RX6, TX6, 10, tyX6, rfl, by decide, xWd_in (List.mem_of_getElem? (i := 322) (by decide +kernel)) rfl, xinX6, tyX6_ok, nmX6, rfl⟩
theorem fwX6_62 : xFl RX6 62 6 9 false false := ⟨RX6, TX6, 10, tyX6, rfl, by decide, xWd_in (List.mem_of_getElem? (i := 322) (by decide +kernel)) rfl, xinX6, tyX6_ok, nmX6, rfl, rfl, fun _ => rfl, (fun h => nomatch h), (fun h => nomatch h)⟩
theorem wlL_13 : Cond.methodLink RL 13 yX6_row ∈ xWd := xWd_in (List.mem_of_getElem? (i := 344) (by decide +kernel)) rfl
theorem mdX6_row : xMd yX6_row cX6_row 4 (some .int) 3 := ⟨by decide +kernel, xWd_in (List.mem_of_getElem? (i := 347) (by decide +kernel)) rfl, xWd_in (List.mem_of_getElem? (i := 88) (by decide +kernel)) rfl, by decide +kernel, by decide⟩
theorem miX6_row : Cond.instanceMethod yX6_row ∈ xWd ∧ Cond.selects yX6_row.cls yX6_row yX6_row ∈ xWd := ⟨xWd_in (List.mem_of_getElem? (i := 345) (by decide +kernel)) rfl, xWd_in (List.mem_of_getElem? (i := 346) (by decide +kernel)) rfl⟩
theorem wlX6_65 : Cond.methodLink RX6 65 yX6_noRow ∈ xWd := xWd_in (List.mem_of_getElem? (i := 348) (by decide +kernel)) rfl
theorem mdX6_noRow : xMd yX6_noRow cX6_noRow 1 (some .boolean) 1 := ⟨by decide +kernel, xWd_in (List.mem_of_getElem? (i := 350) (by decide +kernel)) rfl, xWd_in (List.mem_of_getElem? (i := 88) (by decide +kernel)) rfl, by decide +kernel, by decide⟩
theorem msX6_noRow : Cond.static yX6_noRow ∈ xWd := xWd_in (List.mem_of_getElem? (i := 349) (by decide +kernel)) rfl
theorem wlX6_217 : Cond.methodLink RX6 217 yX6_outside ∈ xWd := xWd_in (List.mem_of_getElem? (i := 351) (by decide +kernel)) rfl
theorem mdX6_outside : xMd yX6_outside cX6_outside 3 (some .boolean) 3 := ⟨by decide +kernel, xWd_in (List.mem_of_getElem? (i := 353) (by decide +kernel)) rfl, xWd_in (List.mem_of_getElem? (i := 88) (by decide +kernel)) rfl, by decide +kernel, by decide⟩
theorem msX6_outside : Cond.static yX6_outside ∈ xWd := xWd_in (List.mem_of_getElem? (i := 352) (by decide +kernel)) rfl
theorem wkX6_69 : Cond.constant RX6 69 (-1000001) ∈ xWd := xWd_in (List.mem_of_getElem? (i := 354) (by decide +kernel)) rfl
theorem wlX6_70 : Cond.methodLink RX6 70 yX6_found ∈ xWd := xWd_in (List.mem_of_getElem? (i := 355) (by decide +kernel)) rfl
theorem mdX6_found : xMd yX6_found cX6_found 2 (some .int) 1 := ⟨by decide +kernel, xWd_in (List.mem_of_getElem? (i := 358) (by decide +kernel)) rfl, xWd_in (List.mem_of_getElem? (i := 88) (by decide +kernel)) rfl, by decide +kernel, by decide⟩
theorem miX6_found : Cond.instanceMethod yX6_found ∈ xWd ∧ Cond.selects yX6_found.cls yX6_found yX6_found ∈ xWd := ⟨xWd_in (List.mem_of_getElem? (i := 357) (by decide +kernel)) rfl, xWd_in (List.mem_of_getElem? (i := 0) (by decide +kernel)) rfl⟩
theorem wkX6_338 : Cond.constant RX6 338 (-1000010) ∈ xWd := xWd_in (List.mem_of_getElem? (i := 359) (by decide +kernel)) rfl
theorem wlX6_74 : Cond.methodLink RX6 74 yX2_make ∈ xWd := xWd_in (List.mem_of_getElem? (i := 360) (by decide +kernel)) rfl
theorem mdX2_make : xMd yX2_make cX2_make 4 none 3 := ⟨by decide +kernel, xWd_in (List.mem_of_getElem? (i := 363) (by decide +kernel)) rfl, xWd_in (List.mem_of_getElem? (i := 89) (by decide +kernel)) rfl, by decide +kernel, by decide⟩
theorem miX2_make : Cond.instanceMethod yX2_make ∈ xWd ∧ Cond.selects yX2_make.cls yX2_make yX2_make ∈ xWd := ⟨xWd_in (List.mem_of_getElem? (i := 361) (by decide +kernel)) rfl, xWd_in (List.mem_of_getElem? (i := 362) (by decide +kernel)) rfl⟩
theorem wlX6_78 : Cond.methodLink RX6 78 yX6_foundNone ∈ xWd := xWd_in (List.mem_of_getElem? (i := 364) (by decide +kernel)) rfl
theorem mdX6_foundNone : xMd yX6_foundNone cX6_foundNone 2 (some .int) 1 := ⟨by decide +kernel, xWd_in (List.mem_of_getElem? (i := 367) (by decide +kernel)) rfl, xWd_in (List.mem_of_getElem? (i := 88) (by decide +kernel)) rfl, by decide +kernel, by decide⟩
theorem miX6_foundNone : Cond.instanceMethod yX6_foundNone ∈ xWd ∧ Cond.selects yX6_foundNone.cls yX6_foundNone yX6_foundNone ∈ xWd := ⟨xWd_in (List.mem_of_getElem? (i := 366) (by decide +kernel)) rfl, xWd_in (List.mem_of_getElem? (i := 1) (by decide +kernel)) rfl⟩
theorem wlL_18 : Cond.methodLink RL 18 yX6_set ∈ xWd := xWd_in (List.mem_of_getElem? (i := 368) (by decide +kernel)) rfl
theorem mdX6_set : xMd yX6_set cX6_set 5 (some .int) 3 := ⟨by decide +kernel, xWd_in (List.mem_of_getElem? (i := 371) (by decide +kernel)) rfl, xWd_in (List.mem_of_getElem? (i := 88) (by decide +kernel)) rfl, by decide +kernel, by decide⟩
theorem miX6_set : Cond.instanceMethod yX6_set ∈ xWd ∧ Cond.selects yX6_set.cls yX6_set yX6_set ∈ xWd := ⟨xWd_in (List.mem_of_getElem? (i := 369) (by decide +kernel)) rfl, xWd_in (List.mem_of_getElem? (i := 370) (by decide +kernel)) rfl⟩
theorem wlX6_81 : Cond.methodLink RX6 81 yX6_findingAt ∈ xWd := xWd_in (List.mem_of_getElem? (i := 372) (by decide +kernel)) rfl
theorem mdX6_findingAt : xMd yX6_findingAt cX6_findingAt 4 (some .int) 3 := ⟨by decide +kernel, xWd_in (List.mem_of_getElem? (i := 375) (by decide +kernel)) rfl, xWd_in (List.mem_of_getElem? (i := 88) (by decide +kernel)) rfl, by decide +kernel, by decide⟩
theorem miX6_findingAt : Cond.instanceMethod yX6_findingAt ∈ xWd ∧ Cond.selects yX6_findingAt.cls yX6_findingAt yX6_findingAt ∈ xWd := ⟨xWd_in (List.mem_of_getElem? (i := 374) (by decide +kernel)) rfl, xWd_in (List.mem_of_getElem? (i := 2) (by decide +kernel)) rfl⟩
theorem wlX6_88 : Cond.methodLink RX6 88 yX2_isMissing ∈ xWd := xWd_in (List.mem_of_getElem? (i := 376) (by decide +kernel)) rfl
theorem mdX2_isMissing : xMd yX2_isMissing cX2_isMissing 2 (some .boolean) 1 := ⟨by decide +kernel, xWd_in (List.mem_of_getElem? (i := 379) (by decide +kernel)) rfl, xWd_in (List.mem_of_getElem? (i := 89) (by decide +kernel)) rfl, by decide +kernel, by decide⟩
theorem miX2_isMissing : Cond.instanceMethod yX2_isMissing ∈ xWd ∧ Cond.selects yX2_isMissing.cls yX2_isMissing yX2_isMissing ∈ xWd := ⟨xWd_in (List.mem_of_getElem? (i := 377) (by decide +kernel)) rfl, xWd_in (List.mem_of_getElem? (i := 378) (by decide +kernel)) rfl⟩
theorem wlX6_94 : Cond.methodLink RX6 94 yX2_has ∈ xWd := xWd_in (List.mem_of_getElem? (i := 380) (by decide +kernel)) rfl
theorem mdX2_has : xMd yX2_has cX2_has 4 (some .boolean) 3 := ⟨by decide +kernel, xWd_in (List.mem_of_getElem? (i := 383) (by decide +kernel)) rfl, xWd_in (List.mem_of_getElem? (i := 89) (by decide +kernel)) rfl, by decide +kernel, by decide⟩
theorem miX2_has : Cond.instanceMethod yX2_has ∈ xWd ∧ Cond.selects yX2_has.cls yX2_has yX2_has ∈ xWd := ⟨xWd_in (List.mem_of_getElem? (i := 381) (by decide +kernel)) rfl, xWd_in (List.mem_of_getElem? (i := 382) (by decide +kernel)) rfl⟩
theorem wlX6_85 : Cond.methodLink RX6 85 yX2_put ∈ xWd := xWd_in (List.mem_of_getElem? (i := 384) (by decide +kernel)) rfl
theorem mdX2_put : xMd yX2_put cX2_put 5 (some .int) 3 := ⟨by decide +kernel, xWd_in (List.mem_of_getElem? (i := 387) (by decide +kernel)) rfl, xWd_in (List.mem_of_getElem? (i := 89) (by decide +kernel)) rfl, by decide +kernel, by decide⟩
theorem miX2_put : Cond.instanceMethod yX2_put ∈ xWd ∧ Cond.selects yX2_put.cls yX2_put yX2_put ∈ xWd := ⟨xWd_in (List.mem_of_getElem? (i := 385) (by decide +kernel)) rfl, xWd_in (List.mem_of_getElem? (i := 386) (by decide +kernel)) rfl⟩
theorem wlL_22 : Cond.methodLink RL 22 yX6_copy ∈ xWd := xWd_in (List.mem_of_getElem? (i := 388) (by decide +kernel)) rfl
theorem mdX6_copy : xMd yX6_copy cX6_copy 6 (some .int) 5 := ⟨by decide +kernel, xWd_in (List.mem_of_getElem? (i := 391) (by decide +kernel)) rfl, xWd_in (List.mem_of_getElem? (i := 88) (by decide +kernel)) rfl, by decide +kernel, by decide⟩
theorem miX6_copy : Cond.instanceMethod yX6_copy ∈ xWd ∧ Cond.selects yX6_copy.cls yX6_copy yX6_copy ∈ xWd := ⟨xWd_in (List.mem_of_getElem? (i := 389) (by decide +kernel)) rfl, xWd_in (List.mem_of_getElem? (i := 390) (by decide +kernel)) rfl⟩
theorem wlX6_91 : Cond.methodLink RX6 91 yX2_laneOf ∈ xWd := xWd_in (List.mem_of_getElem? (i := 392) (by decide +kernel)) rfl
theorem mdX2_laneOf : xMd yX2_laneOf cX2_laneOf 2 (some .int) 1 := ⟨by decide +kernel, xWd_in (List.mem_of_getElem? (i := 395) (by decide +kernel)) rfl, xWd_in (List.mem_of_getElem? (i := 89) (by decide +kernel)) rfl, by decide +kernel, by decide⟩
theorem miX2_laneOf : Cond.instanceMethod yX2_laneOf ∈ xWd ∧ Cond.selects yX2_laneOf.cls yX2_laneOf yX2_laneOf ∈ xWd := ⟨xWd_in (List.mem_of_getElem? (i := 393) (by decide +kernel)) rfl, xWd_in (List.mem_of_getElem? (i := 394) (by decide +kernel)) rfl⟩
theorem wlX6_98 : Cond.methodLink RX6 98 yX2_move ∈ xWd := xWd_in (List.mem_of_getElem? (i := 396) (by decide +kernel)) rfl
theorem mdX2_move : xMd yX2_move cX2_move 6 none 5 := ⟨by decide +kernel, xWd_in (List.mem_of_getElem? (i := 399) (by decide +kernel)) rfl, xWd_in (List.mem_of_getElem? (i := 89) (by decide +kernel)) rfl, by decide +kernel, by decide⟩
theorem miX2_move : Cond.instanceMethod yX2_move ∈ xWd ∧ Cond.selects yX2_move.cls yX2_move yX2_move ∈ xWd := ⟨xWd_in (List.mem_of_getElem? (i := 397) (by decide +kernel)) rfl, xWd_in (List.mem_of_getElem? (i := 398) (by decide +kernel)) rfl⟩
theorem wlX2_27 : Cond.methodLink RX2 27 arraycopyName ∈ xWd := xWd_in (List.mem_of_getElem? (i := 400) (by decide +kernel)) rfl
theorem wlL_27 : Cond.methodLink RL 27 yX6_drop ∈ xWd := xWd_in (List.mem_of_getElem? (i := 403) (by decide +kernel)) rfl
theorem mdX6_drop : xMd yX6_drop cX6_drop 2 (some .int) 1 := ⟨by decide +kernel, xWd_in (List.mem_of_getElem? (i := 406) (by decide +kernel)) rfl, xWd_in (List.mem_of_getElem? (i := 88) (by decide +kernel)) rfl, by decide +kernel, by decide⟩
theorem miX6_drop : Cond.instanceMethod yX6_drop ∈ xWd ∧ Cond.selects yX6_drop.cls yX6_drop yX6_drop ∈ xWd := ⟨xWd_in (List.mem_of_getElem? (i := 404) (by decide +kernel)) rfl, xWd_in (List.mem_of_getElem? (i := 405) (by decide +kernel)) rfl⟩
theorem wlX6_102 : Cond.methodLink RX6 102 yX2_remove ∈ xWd := xWd_in (List.mem_of_getElem? (i := 407) (by decide +kernel)) rfl
theorem mdX2_remove : xMd yX2_remove cX2_remove 3 (some .int) 1 := ⟨by decide +kernel, xWd_in (List.mem_of_getElem? (i := 410) (by decide +kernel)) rfl, xWd_in (List.mem_of_getElem? (i := 89) (by decide +kernel)) rfl, by decide +kernel, by decide⟩
theorem miX2_remove : Cond.instanceMethod yX2_remove ∈ xWd ∧ Cond.selects yX2_remove.cls yX2_remove yX2_remove ∈ xWd := ⟨xWd_in (List.mem_of_getElem? (i := 408) (by decide +kernel)) rfl, xWd_in (List.mem_of_getElem? (i := 409) (by decide +kernel)) rfl⟩
theorem wlL_32 : Cond.methodLink RL 32 yX6_feed ∈ xWd := xWd_in (List.mem_of_getElem? (i := 411) (by decide +kernel)) rfl
theorem mdX6_feed : xMd yX6_feed cX6_feed 2 (some .int) 1 := ⟨by decide +kernel, xWd_in (List.mem_of_getElem? (i := 414) (by decide +kernel)) rfl, xWd_in (List.mem_of_getElem? (i := 88) (by decide +kernel)) rfl, by decide +kernel, by decide⟩
theorem miX6_feed : Cond.instanceMethod yX6_feed ∈ xWd ∧ Cond.selects yX6_feed.cls yX6_feed yX6_feed ∈ xWd := ⟨xWd_in (List.mem_of_getElem? (i := 412) (by decide +kernel)) rfl, xWd_in (List.mem_of_getElem? (i := 413) (by decide +kernel)) rfl⟩
theorem wlX6_105 : Cond.methodLink RX6 105 yX4_add ∈ xWd := xWd_in (List.mem_of_getElem? (i := 415) (by decide +kernel)) rfl
theorem mdX4_add : xMd yX4_add cX4_add 2 (some .boolean) 1 := ⟨by decide +kernel, xWd_in (List.mem_of_getElem? (i := 418) (by decide +kernel)) rfl, xWd_in (List.mem_of_getElem? (i := 91) (by decide +kernel)) rfl, by decide +kernel, by decide⟩
theorem miX4_add : Cond.instanceMethod yX4_add ∈ xWd ∧ Cond.selects yX4_add.cls yX4_add yX4_add ∈ xWd := ⟨xWd_in (List.mem_of_getElem? (i := 416) (by decide +kernel)) rfl, xWd_in (List.mem_of_getElem? (i := 417) (by decide +kernel)) rfl⟩
theorem wlX6_108 : Cond.methodLink RX6 108 yX4_length ∈ xWd := xWd_in (List.mem_of_getElem? (i := 419) (by decide +kernel)) rfl
theorem mdX4_length : xMd yX4_length cX4_length 1 (some .int) 0 := ⟨by decide +kernel, xWd_in (List.mem_of_getElem? (i := 422) (by decide +kernel)) rfl, xWd_in (List.mem_of_getElem? (i := 91) (by decide +kernel)) rfl, by decide +kernel, by decide⟩
theorem miX4_length : Cond.instanceMethod yX4_length ∈ xWd ∧ Cond.selects yX4_length.cls yX4_length yX4_length ∈ xWd := ⟨xWd_in (List.mem_of_getElem? (i := 420) (by decide +kernel)) rfl, xWd_in (List.mem_of_getElem? (i := 421) (by decide +kernel)) rfl⟩
theorem wkX6_112 : Cond.constant RX6 112 (-1000003) ∈ xWd := xWd_in (List.mem_of_getElem? (i := 423) (by decide +kernel)) rfl
theorem wlL_36 : Cond.methodLink RL 36 yX6_run ∈ xWd := xWd_in (List.mem_of_getElem? (i := 424) (by decide +kernel)) rfl
theorem mdX6_run : xMd yX6_run cX6_run 2 (some .int) 0 := ⟨by decide +kernel, xWd_in (List.mem_of_getElem? (i := 427) (by decide +kernel)) rfl, xWd_in (List.mem_of_getElem? (i := 88) (by decide +kernel)) rfl, by decide +kernel, by decide⟩
theorem miX6_run : Cond.instanceMethod yX6_run ∈ xWd ∧ Cond.selects yX6_run.cls yX6_run yX6_run ∈ xWd := ⟨xWd_in (List.mem_of_getElem? (i := 425) (by decide +kernel)) rfl, xWd_in (List.mem_of_getElem? (i := 426) (by decide +kernel)) rfl⟩
theorem wlX6_113 : Cond.methodLink RX6 113 yX4_readInto ∈ xWd := xWd_in (List.mem_of_getElem? (i := 428) (by decide +kernel)) rfl
theorem mdX4_readInto : xMd yX4_readInto cX4_readInto 2 (some .boolean) 1 := ⟨by decide +kernel, xWd_in (List.mem_of_getElem? (i := 431) (by decide +kernel)) rfl, xWd_in (List.mem_of_getElem? (i := 91) (by decide +kernel)) rfl, by decide +kernel, by decide⟩
theorem miX4_readInto : Cond.instanceMethod yX4_readInto ∈ xWd ∧ Cond.selects yX4_readInto.cls yX4_readInto yX4_readInto ∈ xWd := ⟨xWd_in (List.mem_of_getElem? (i := 429) (by decide +kernel)) rfl, xWd_in (List.mem_of_getElem? (i := 430) (by decide +kernel)) rfl⟩
theorem wlX4_28 : Cond.methodLink RX4 28 yX5_clear ∈ xWd := xWd_in (List.mem_of_getElem? (i := 432) (by decide +kernel)) rfl
theorem mdX5_clear : xMd yX5_clear cX5_clear 1 none 0 := ⟨by decide +kernel, xWd_in (List.mem_of_getElem? (i := 435) (by decide +kernel)) rfl, xWd_in (List.mem_of_getElem? (i := 92) (by decide +kernel)) rfl, by decide +kernel, by decide⟩
theorem miX5_clear : Cond.instanceMethod yX5_clear ∈ xWd ∧ Cond.selects yX5_clear.cls yX5_clear yX5_clear ∈ xWd := ⟨xWd_in (List.mem_of_getElem? (i := 433) (by decide +kernel)) rfl, xWd_in (List.mem_of_getElem? (i := 434) (by decide +kernel)) rfl⟩
theorem wlX5_58 : Cond.methodLink RX5 58 yJ7_fill_53178 ∈ xWd := xWd_in (List.mem_of_getElem? (i := 436) (by decide +kernel)) rfl
theorem wkX5_64 : Cond.constant RX5 64 (-1000000) ∈ xWd := xWd_in (List.mem_of_getElem? (i := 437) (by decide +kernel)) rfl
theorem wlX4_33 : Cond.methodLink RX4 33 yX4_readLaw ∈ xWd := xWd_in (List.mem_of_getElem? (i := 438) (by decide +kernel)) rfl
theorem mdX4_readLaw : xMd yX4_readLaw cX4_readLaw 2 (some .boolean) 1 := ⟨by decide +kernel, xWd_in (List.mem_of_getElem? (i := 441) (by decide +kernel)) rfl, xWd_in (List.mem_of_getElem? (i := 91) (by decide +kernel)) rfl, by decide +kernel, by decide⟩
theorem miX4_readLaw : Cond.instanceMethod yX4_readLaw ∈ xWd ∧ Cond.selects yX4_readLaw.cls yX4_readLaw yX4_readLaw ∈ xWd := ⟨xWd_in (List.mem_of_getElem? (i := 440) (by decide +kernel)) rfl, xWd_in (List.mem_of_getElem? (i := 3) (by decide +kernel)) rfl⟩
theorem wlX4_43 : Cond.methodLink RX4 43 yX4_take ∈ xWd := xWd_in (List.mem_of_getElem? (i := 442) (by decide +kernel)) rfl
theorem mdX4_take : xMd yX4_take cX4_take 2 (some .boolean) 1 := ⟨by decide +kernel, xWd_in (List.mem_of_getElem? (i := 445) (by decide +kernel)) rfl, xWd_in (List.mem_of_getElem? (i := 91) (by decide +kernel)) rfl, by decide +kernel, by decide⟩
theorem miX4_take : Cond.instanceMethod yX4_take ∈ xWd ∧ Cond.selects yX4_take.cls yX4_take yX4_take ∈ xWd := ⟨xWd_in (List.mem_of_getElem? (i := 444) (by decide +kernel)) rfl, xWd_in (List.mem_of_getElem? (i := 4) (by decide +kernel)) rfl⟩
theorem wlX4_54 : Cond.methodLink RX4 54 yX4_next ∈ xWd := xWd_in (List.mem_of_getElem? (i := 446) (by decide +kernel)) rfl
theorem mdX4_next : xMd yX4_next cX4_next 1 (some .int) 0 := ⟨by decide +kernel, xWd_in (List.mem_of_getElem? (i := 449) (by decide +kernel)) rfl, xWd_in (List.mem_of_getElem? (i := 91) (by decide +kernel)) rfl, by decide +kernel, by decide⟩
theorem miX4_next : Cond.instanceMethod yX4_next ∈ xWd ∧ Cond.selects yX4_next.cls yX4_next yX4_next ∈ xWd := ⟨xWd_in (List.mem_of_getElem? (i := 448) (by decide +kernel)) rfl, xWd_in (List.mem_of_getElem? (i := 5) (by decide +kernel)) rfl⟩
theorem wlX4_96 : Cond.methodLink RX4 96 yX4_byteAt ∈ xWd := xWd_in (List.mem_of_getElem? (i := 450) (by decide +kernel)) rfl
theorem mdX4_byteAt : xMd yX4_byteAt cX4_byteAt 2 (some .int) 1 := ⟨by decide +kernel, xWd_in (List.mem_of_getElem? (i := 453) (by decide +kernel)) rfl, xWd_in (List.mem_of_getElem? (i := 91) (by decide +kernel)) rfl, by decide +kernel, by decide⟩
theorem miX4_byteAt : Cond.instanceMethod yX4_byteAt ∈ xWd ∧ Cond.selects yX4_byteAt.cls yX4_byteAt yX4_byteAt ∈ xWd := ⟨xWd_in (List.mem_of_getElem? (i := 452) (by decide +kernel)) rfl, xWd_in (List.mem_of_getElem? (i := 6) (by decide +kernel)) rfl⟩
theorem wlX4_58 : Cond.methodLink RX4 58 yX4_fails ∈ xWd := xWd_in (List.mem_of_getElem? (i := 454) (by decide +kernel)) rfl
theorem mdX4_fails : xMd yX4_fails cX4_fails 2 (some .boolean) 1 := ⟨by decide +kernel, xWd_in (List.mem_of_getElem? (i := 457) (by decide +kernel)) rfl, xWd_in (List.mem_of_getElem? (i := 91) (by decide +kernel)) rfl, by decide +kernel, by decide⟩
theorem miX4_fails : Cond.instanceMethod yX4_fails ∈ xWd ∧ Cond.selects yX4_fails.cls yX4_fails yX4_fails ∈ xWd := ⟨xWd_in (List.mem_of_getElem? (i := 456) (by decide +kernel)) rfl, xWd_in (List.mem_of_getElem? (i := 7) (by decide +kernel)) rfl⟩
theorem wlX4_47 : Cond.methodLink RX4 47 yX4_takeNumber ∈ xWd := xWd_in (List.mem_of_getElem? (i := 458) (by decide +kernel)) rfl
theorem mdX4_takeNumber : xMd yX4_takeNumber cX4_takeNumber 5 (some .boolean) 2 := ⟨by decide +kernel, xWd_in (List.mem_of_getElem? (i := 461) (by decide +kernel)) rfl, xWd_in (List.mem_of_getElem? (i := 91) (by decide +kernel)) rfl, by decide +kernel, by decide⟩
theorem miX4_takeNumber : Cond.instanceMethod yX4_takeNumber ∈ xWd ∧ Cond.selects yX4_takeNumber.cls yX4_takeNumber yX4_takeNumber ∈ xWd := ⟨xWd_in (List.mem_of_getElem? (i := 460) (by decide +kernel)) rfl, xWd_in (List.mem_of_getElem? (i := 8) (by decide +kernel)) rfl⟩
theorem wlX4_99 : Cond.methodLink RX4 99 yX4_isFigureAt ∈ xWd := xWd_in (List.mem_of_getElem? (i := 462) (by decide +kernel)) rfl
theorem mdX4_isFigureAt : xMd yX4_isFigureAt cX4_isFigureAt 3 (some .boolean) 1 := ⟨by decide +kernel, xWd_in (List.mem_of_getElem? (i := 465) (by decide +kernel)) rfl, xWd_in (List.mem_of_getElem? (i := 91) (by decide +kernel)) rfl, by decide +kernel, by decide⟩
theorem miX4_isFigureAt : Cond.instanceMethod yX4_isFigureAt ∈ xWd ∧ Cond.selects yX4_isFigureAt.cls yX4_isFigureAt yX4_isFigureAt ∈ xWd := ⟨xWd_in (List.mem_of_getElem? (i := 464) (by decide +kernel)) rfl, xWd_in (List.mem_of_getElem? (i := 9) (by decide +kernel)) rfl⟩
theorem wlX4_37 : Cond.methodLink RX4 37 yX4_readMarbles ∈ xWd := xWd_in (List.mem_of_getElem? (i := 466) (by decide +kernel)) rfl
theorem mdX4_readMarbles : xMd yX4_readMarbles cX4_readMarbles 3 (some .boolean) 1 := ⟨by decide +kernel, xWd_in (List.mem_of_getElem? (i := 469) (by decide +kernel)) rfl, xWd_in (List.mem_of_getElem? (i := 91) (by decide +kernel)) rfl, by decide +kernel, by decide⟩
theorem miX4_readMarbles : Cond.instanceMethod yX4_readMarbles ∈ xWd ∧ Cond.selects yX4_readMarbles.cls yX4_readMarbles yX4_readMarbles ∈ xWd := ⟨xWd_in (List.mem_of_getElem? (i := 468) (by decide +kernel)) rfl, xWd_in (List.mem_of_getElem? (i := 10) (by decide +kernel)) rfl⟩
theorem wlX4_61 : Cond.methodLink RX4 61 yX4_readMarble ∈ xWd := xWd_in (List.mem_of_getElem? (i := 470) (by decide +kernel)) rfl
theorem mdX4_readMarble : xMd yX4_readMarble cX4_readMarble 3 (some .boolean) 2 := ⟨by decide +kernel, xWd_in (List.mem_of_getElem? (i := 473) (by decide +kernel)) rfl, xWd_in (List.mem_of_getElem? (i := 91) (by decide +kernel)) rfl, by decide +kernel, by decide⟩
theorem miX4_readMarble : Cond.instanceMethod yX4_readMarble ∈ xWd ∧ Cond.selects yX4_readMarble.cls yX4_readMarble yX4_readMarble ∈ xWd := ⟨xWd_in (List.mem_of_getElem? (i := 472) (by decide +kernel)) rfl, xWd_in (List.mem_of_getElem? (i := 11) (by decide +kernel)) rfl⟩
theorem wlX4_40 : Cond.methodLink RX4 40 yX4_readPieces ∈ xWd := xWd_in (List.mem_of_getElem? (i := 474) (by decide +kernel)) rfl
theorem mdX4_readPieces : xMd yX4_readPieces cX4_readPieces 3 (some .boolean) 1 := ⟨by decide +kernel, xWd_in (List.mem_of_getElem? (i := 477) (by decide +kernel)) rfl, xWd_in (List.mem_of_getElem? (i := 91) (by decide +kernel)) rfl, by decide +kernel, by decide⟩
theorem miX4_readPieces : Cond.instanceMethod yX4_readPieces ∈ xWd ∧ Cond.selects yX4_readPieces.cls yX4_readPieces yX4_readPieces ∈ xWd := ⟨xWd_in (List.mem_of_getElem? (i := 476) (by decide +kernel)) rfl, xWd_in (List.mem_of_getElem? (i := 12) (by decide +kernel)) rfl⟩
theorem wlX4_74 : Cond.methodLink RX4 74 yX4_sortOf ∈ xWd := xWd_in (List.mem_of_getElem? (i := 478) (by decide +kernel)) rfl
theorem mdX4_sortOf : xMd yX4_sortOf cX4_sortOf 1 (some .int) 1 := ⟨by decide +kernel, xWd_in (List.mem_of_getElem? (i := 480) (by decide +kernel)) rfl, xWd_in (List.mem_of_getElem? (i := 91) (by decide +kernel)) rfl, by decide +kernel, by decide⟩
theorem msX4_sortOf : Cond.static yX4_sortOf ∈ xWd := xWd_in (List.mem_of_getElem? (i := 479) (by decide +kernel)) rfl
theorem wlX4_78 : Cond.methodLink RX4 78 yX4_readPiece ∈ xWd := xWd_in (List.mem_of_getElem? (i := 481) (by decide +kernel)) rfl
theorem mdX4_readPiece : xMd yX4_readPiece cX4_readPiece 3 (some .boolean) 2 := ⟨by decide +kernel, xWd_in (List.mem_of_getElem? (i := 484) (by decide +kernel)) rfl, xWd_in (List.mem_of_getElem? (i := 91) (by decide +kernel)) rfl, by decide +kernel, by decide⟩
theorem miX4_readPiece : Cond.instanceMethod yX4_readPiece ∈ xWd ∧ Cond.selects yX4_readPiece.cls yX4_readPiece yX4_readPiece ∈ xWd := ⟨xWd_in (List.mem_of_getElem? (i := 483) (by decide +kernel)) rfl, xWd_in (List.mem_of_getElem? (i := 13) (by decide +kernel)) rfl⟩
theorem wlX6_117 : Cond.methodLink RX6 117 yX4_clear ∈ xWd := xWd_in (List.mem_of_getElem? (i := 485) (by decide +kernel)) rfl
theorem mdX4_clear : xMd yX4_clear cX4_clear 1 none 0 := ⟨by decide +kernel, xWd_in (List.mem_of_getElem? (i := 488) (by decide +kernel)) rfl, xWd_in (List.mem_of_getElem? (i := 91) (by decide +kernel)) rfl, by decide +kernel, by decide⟩
theorem miX4_clear : Cond.instanceMethod yX4_clear ∈ xWd ∧ Cond.selects yX4_clear.cls yX4_clear yX4_clear ∈ xWd := ⟨xWd_in (List.mem_of_getElem? (i := 486) (by decide +kernel)) rfl, xWd_in (List.mem_of_getElem? (i := 487) (by decide +kernel)) rfl⟩
theorem wlX6_120 : Cond.methodLink RX6 120 yX4_faultNumber ∈ xWd := xWd_in (List.mem_of_getElem? (i := 489) (by decide +kernel)) rfl
theorem mdX4_faultNumber : xMd yX4_faultNumber cX4_faultNumber 1 (some .int) 0 := ⟨by decide +kernel, xWd_in (List.mem_of_getElem? (i := 492) (by decide +kernel)) rfl, xWd_in (List.mem_of_getElem? (i := 91) (by decide +kernel)) rfl, by decide +kernel, by decide⟩
theorem miX4_faultNumber : Cond.instanceMethod yX4_faultNumber ∈ xWd ∧ Cond.selects yX4_faultNumber.cls yX4_faultNumber yX4_faultNumber ∈ xWd := ⟨xWd_in (List.mem_of_getElem? (i := 490) (by decide +kernel)) rfl, xWd_in (List.mem_of_getElem? (i := 491) (by decide +kernel)) rfl⟩
theorem wkX6_123 : Cond.constant RX6 123 (-1000100) ∈ xWd := xWd_in (List.mem_of_getElem? (i := 493) (by decide +kernel)) rfl
theorem wlX6_124 : Cond.methodLink RX6 124 yX4_faultPlace ∈ xWd := xWd_in (List.mem_of_getElem? (i := 494) (by decide +kernel)) rfl
theorem mdX4_faultPlace : xMd yX4_faultPlace cX4_faultPlace 1 (some .int) 0 := ⟨by decide +kernel, xWd_in (List.mem_of_getElem? (i := 497) (by decide +kernel)) rfl, xWd_in (List.mem_of_getElem? (i := 91) (by decide +kernel)) rfl, by decide +kernel, by decide⟩
theorem miX4_faultPlace : Cond.instanceMethod yX4_faultPlace ∈ xWd ∧ Cond.selects yX4_faultPlace.cls yX4_faultPlace yX4_faultPlace ∈ xWd := ⟨xWd_in (List.mem_of_getElem? (i := 495) (by decide +kernel)) rfl, xWd_in (List.mem_of_getElem? (i := 496) (by decide +kernel)) rfl⟩
theorem wlX6_127 : Cond.methodLink RX6 127 yX5_becomeLike ∈ xWd := xWd_in (List.mem_of_getElem? (i := 498) (by decide +kernel)) rfl
theorem mdX5_becomeLike : xMd yX5_becomeLike cX5_becomeLike 2 none 1 := ⟨by decide +kernel, xWd_in (List.mem_of_getElem? (i := 501) (by decide +kernel)) rfl, xWd_in (List.mem_of_getElem? (i := 92) (by decide +kernel)) rfl, by decide +kernel, by decide⟩
theorem miX5_becomeLike : Cond.instanceMethod yX5_becomeLike ∈ xWd ∧ Cond.selects yX5_becomeLike.cls yX5_becomeLike yX5_becomeLike ∈ xWd := ⟨xWd_in (List.mem_of_getElem? (i := 499) (by decide +kernel)) rfl, xWd_in (List.mem_of_getElem? (i := 500) (by decide +kernel)) rfl⟩
theorem wlX5_65 : Cond.methodLink RX5 65 arraycopyName ∈ xWd := xWd_in (List.mem_of_getElem? (i := 502) (by decide +kernel)) rfl
theorem wlX6_131 : Cond.methodLink RX6 131 yX0_forget ∈ xWd := xWd_in (List.mem_of_getElem? (i := 503) (by decide +kernel)) rfl
theorem mdX0_forget : xMd yX0_forget cX0_forget 1 none 0 := ⟨by decide +kernel, xWd_in (List.mem_of_getElem? (i := 506) (by decide +kernel)) rfl, xWd_in (List.mem_of_getElem? (i := 93) (by decide +kernel)) rfl, by decide +kernel, by decide⟩
theorem miX0_forget : Cond.instanceMethod yX0_forget ∈ xWd ∧ Cond.selects yX0_forget.cls yX0_forget yX0_forget ∈ xWd := ⟨xWd_in (List.mem_of_getElem? (i := 504) (by decide +kernel)) rfl, xWd_in (List.mem_of_getElem? (i := 505) (by decide +kernel)) rfl⟩
theorem wlL_41 : Cond.methodLink RL 41 yX6_fault ∈ xWd := xWd_in (List.mem_of_getElem? (i := 507) (by decide +kernel)) rfl
theorem mdX6_fault : xMd yX6_fault cX6_fault 1 (some .int) 0 := ⟨by decide +kernel, xWd_in (List.mem_of_getElem? (i := 510) (by decide +kernel)) rfl, xWd_in (List.mem_of_getElem? (i := 88) (by decide +kernel)) rfl, by decide +kernel, by decide⟩
theorem miX6_fault : Cond.instanceMethod yX6_fault ∈ xWd ∧ Cond.selects yX6_fault.cls yX6_fault yX6_fault ∈ xWd := ⟨xWd_in (List.mem_of_getElem? (i := 508) (by decide +kernel)) rfl, xWd_in (List.mem_of_getElem? (i := 509) (by decide +kernel)) rfl⟩
theorem wlL_45 : Cond.methodLink RL 45 yX6_undo ∈ xWd := xWd_in (List.mem_of_getElem? (i := 511) (by decide +kernel)) rfl
theorem mdX6_undo : xMd yX6_undo cX6_undo 1 (some .int) 0 := ⟨by decide +kernel, xWd_in (List.mem_of_getElem? (i := 514) (by decide +kernel)) rfl, xWd_in (List.mem_of_getElem? (i := 88) (by decide +kernel)) rfl, by decide +kernel, by decide⟩
theorem miX6_undo : Cond.instanceMethod yX6_undo ∈ xWd ∧ Cond.selects yX6_undo.cls yX6_undo yX6_undo ∈ xWd := ⟨xWd_in (List.mem_of_getElem? (i := 512) (by decide +kernel)) rfl, xWd_in (List.mem_of_getElem? (i := 513) (by decide +kernel)) rfl⟩
theorem wlX6_137 : Cond.methodLink RX6 137 yX0_takeBack ∈ xWd := xWd_in (List.mem_of_getElem? (i := 515) (by decide +kernel)) rfl
theorem mdX0_takeBack : xMd yX0_takeBack cX0_takeBack 2 (some .boolean) 1 := ⟨by decide +kernel, xWd_in (List.mem_of_getElem? (i := 518) (by decide +kernel)) rfl, xWd_in (List.mem_of_getElem? (i := 93) (by decide +kernel)) rfl, by decide +kernel, by decide⟩
theorem miX0_takeBack : Cond.instanceMethod yX0_takeBack ∈ xWd ∧ Cond.selects yX0_takeBack.cls yX0_takeBack yX0_takeBack ∈ xWd := ⟨xWd_in (List.mem_of_getElem? (i := 516) (by decide +kernel)) rfl, xWd_in (List.mem_of_getElem? (i := 517) (by decide +kernel)) rfl⟩
theorem wlX0_23 : Cond.methodLink RX0 23 yX5_becomeLike ∈ xWd := xWd_in (List.mem_of_getElem? (i := 519) (by decide +kernel)) rfl
theorem wlX6_140 : Cond.methodLink RX6 140 yX0_kept ∈ xWd := xWd_in (List.mem_of_getElem? (i := 520) (by decide +kernel)) rfl
theorem mdX0_kept : xMd yX0_kept cX0_kept 1 (some .int) 0 := ⟨by decide +kernel, xWd_in (List.mem_of_getElem? (i := 523) (by decide +kernel)) rfl, xWd_in (List.mem_of_getElem? (i := 93) (by decide +kernel)) rfl, by decide +kernel, by decide⟩
theorem miX0_kept : Cond.instanceMethod yX0_kept ∈ xWd ∧ Cond.selects yX0_kept.cls yX0_kept yX0_kept ∈ xWd := ⟨xWd_in (List.mem_of_getElem? (i := 521) (by decide +kernel)) rfl, xWd_in (List.mem_of_getElem? (i := 522) (by decide +kernel)) rfl⟩
theorem wkX6_143 : Cond.constant RX6 143 (-1000002) ∈ xWd := xWd_in (List.mem_of_getElem? (i := 524) (by decide +kernel)) rfl
theorem wlL_49 : Cond.methodLink RL 49 yX6_ticks ∈ xWd := xWd_in (List.mem_of_getElem? (i := 525) (by decide +kernel)) rfl
theorem mdX6_ticks : xMd yX6_ticks cX6_ticks 3 (some .int) 1 := ⟨by decide +kernel, xWd_in (List.mem_of_getElem? (i := 528) (by decide +kernel)) rfl, xWd_in (List.mem_of_getElem? (i := 88) (by decide +kernel)) rfl, by decide +kernel, by decide⟩
theorem miX6_ticks : Cond.instanceMethod yX6_ticks ∈ xWd ∧ Cond.selects yX6_ticks.cls yX6_ticks yX6_ticks ∈ xWd := ⟨xWd_in (List.mem_of_getElem? (i := 526) (by decide +kernel)) rfl, xWd_in (List.mem_of_getElem? (i := 527) (by decide +kernel)) rfl⟩
theorem wlX6_144 : Cond.methodLink RX6 144 yX6_noRun ∈ xWd := xWd_in (List.mem_of_getElem? (i := 529) (by decide +kernel)) rfl
theorem mdX6_noRun : xMd yX6_noRun cX6_noRun 1 (some .boolean) 0 := ⟨by decide +kernel, xWd_in (List.mem_of_getElem? (i := 532) (by decide +kernel)) rfl, xWd_in (List.mem_of_getElem? (i := 88) (by decide +kernel)) rfl, by decide +kernel, by decide⟩
theorem miX6_noRun : Cond.instanceMethod yX6_noRun ∈ xWd ∧ Cond.selects yX6_noRun.cls yX6_noRun yX6_noRun ∈ xWd := ⟨xWd_in (List.mem_of_getElem? (i := 531) (by decide +kernel)) rfl, xWd_in (List.mem_of_getElem? (i := 14) (by decide +kernel)) rfl⟩
theorem wlX6_151 : Cond.methodLink RX6 151 yX0_keep ∈ xWd := xWd_in (List.mem_of_getElem? (i := 533) (by decide +kernel)) rfl
theorem mdX0_keep : xMd yX0_keep cX0_keep 2 none 1 := ⟨by decide +kernel, xWd_in (List.mem_of_getElem? (i := 536) (by decide +kernel)) rfl, xWd_in (List.mem_of_getElem? (i := 93) (by decide +kernel)) rfl, by decide +kernel, by decide⟩
theorem miX0_keep : Cond.instanceMethod yX0_keep ∈ xWd ∧ Cond.selects yX0_keep.cls yX0_keep yX0_keep ∈ xWd := ⟨xWd_in (List.mem_of_getElem? (i := 534) (by decide +kernel)) rfl, xWd_in (List.mem_of_getElem? (i := 535) (by decide +kernel)) rfl⟩
theorem wlX0_27 : Cond.methodLink RX0 27 yJ9_min_7cf53 ∈ xWd := xWd_in (List.mem_of_getElem? (i := 537) (by decide +kernel)) rfl
theorem mcJ9_min_7cf53 : Cond.code yJ9_min_7cf53 cJ9_min_7cf53 2 (some .int) ∈ xWd := xWd_in (List.mem_of_getElem? (i := 539) (by decide +kernel)) rfl
theorem msJ9_min_7cf53 : Cond.static yJ9_min_7cf53 ∈ xWd := xWd_in (List.mem_of_getElem? (i := 538) (by decide +kernel)) rfl
theorem wlX6_154 : Cond.methodLink RX6 154 yX5_pass ∈ xWd := xWd_in (List.mem_of_getElem? (i := 540) (by decide +kernel)) rfl
theorem mdX5_pass : xMd yX5_pass cX5_pass 3 none 0 := ⟨by decide +kernel, xWd_in (List.mem_of_getElem? (i := 543) (by decide +kernel)) rfl, xWd_in (List.mem_of_getElem? (i := 92) (by decide +kernel)) rfl, by decide +kernel, by decide⟩
theorem miX5_pass : Cond.instanceMethod yX5_pass ∈ xWd ∧ Cond.selects yX5_pass.cls yX5_pass yX5_pass ∈ xWd := ⟨xWd_in (List.mem_of_getElem? (i := 541) (by decide +kernel)) rfl, xWd_in (List.mem_of_getElem? (i := 542) (by decide +kernel)) rfl⟩
theorem wlX5_71 : Cond.methodLink RX5 71 yX5_letIn ∈ xWd := xWd_in (List.mem_of_getElem? (i := 544) (by decide +kernel)) rfl
theorem mdX5_letIn : xMd yX5_letIn cX5_letIn 3 (some .int) 0 := ⟨by decide +kernel, xWd_in (List.mem_of_getElem? (i := 547) (by decide +kernel)) rfl, xWd_in (List.mem_of_getElem? (i := 92) (by decide +kernel)) rfl, by decide +kernel, by decide⟩
theorem miX5_letIn : Cond.instanceMethod yX5_letIn ∈ xWd ∧ Cond.selects yX5_letIn.cls yX5_letIn yX5_letIn ∈ xWd := ⟨xWd_in (List.mem_of_getElem? (i := 546) (by decide +kernel)) rfl, xWd_in (List.mem_of_getElem? (i := 15) (by decide +kernel)) rfl⟩
theorem wlX5_75 : Cond.methodLink RX5 75 yX5_leave ∈ xWd := xWd_in (List.mem_of_getElem? (i := 548) (by decide +kernel)) rfl
theorem mdX5_leave : xMd yX5_leave cX5_leave 3 none 2 := ⟨by decide +kernel, xWd_in (List.mem_of_getElem? (i := 551) (by decide +kernel)) rfl, xWd_in (List.mem_of_getElem? (i := 92) (by decide +kernel)) rfl, by decide +kernel, by decide⟩
theorem miX5_leave : Cond.instanceMethod yX5_leave ∈ xWd ∧ Cond.selects yX5_leave.cls yX5_leave yX5_leave ∈ xWd := ⟨xWd_in (List.mem_of_getElem? (i := 550) (by decide +kernel)) rfl, xWd_in (List.mem_of_getElem? (i := 16) (by decide +kernel)) rfl⟩
theorem wlX5_79 : Cond.methodLink RX5 79 yJ9_min_7cf53 ∈ xWd := xWd_in (List.mem_of_getElem? (i := 552) (by decide +kernel)) rfl
theorem wlX5_85 : Cond.methodLink RX5 85 yX5_send ∈ xWd := xWd_in (List.mem_of_getElem? (i := 553) (by decide +kernel)) rfl
theorem mdX5_send : xMd yX5_send cX5_send 3 none 2 := ⟨by decide +kernel, xWd_in (List.mem_of_getElem? (i := 556) (by decide +kernel)) rfl, xWd_in (List.mem_of_getElem? (i := 92) (by decide +kernel)) rfl, by decide +kernel, by decide⟩
theorem miX5_send : Cond.instanceMethod yX5_send ∈ xWd ∧ Cond.selects yX5_send.cls yX5_send yX5_send ∈ xWd := ⟨xWd_in (List.mem_of_getElem? (i := 555) (by decide +kernel)) rfl, xWd_in (List.mem_of_getElem? (i := 17) (by decide +kernel)) rfl⟩
theorem wlX5_88 : Cond.methodLink RX5 88 yX5_swing ∈ xWd := xWd_in (List.mem_of_getElem? (i := 557) (by decide +kernel)) rfl
theorem mdX5_swing : xMd yX5_swing cX5_swing 2 none 1 := ⟨by decide +kernel, xWd_in (List.mem_of_getElem? (i := 560) (by decide +kernel)) rfl, xWd_in (List.mem_of_getElem? (i := 92) (by decide +kernel)) rfl, by decide +kernel, by decide⟩
theorem miX5_swing : Cond.instanceMethod yX5_swing ∈ xWd ∧ Cond.selects yX5_swing.cls yX5_swing yX5_swing ∈ xWd := ⟨xWd_in (List.mem_of_getElem? (i := 558) (by decide +kernel)) rfl, xWd_in (List.mem_of_getElem? (i := 559) (by decide +kernel)) rfl⟩
theorem wlX5_92 : Cond.methodLink RX5 92 yX5_hold ∈ xWd := xWd_in (List.mem_of_getElem? (i := 561) (by decide +kernel)) rfl
theorem mdX5_hold : xMd yX5_hold cX5_hold 3 none 2 := ⟨by decide +kernel, xWd_in (List.mem_of_getElem? (i := 564) (by decide +kernel)) rfl, xWd_in (List.mem_of_getElem? (i := 92) (by decide +kernel)) rfl, by decide +kernel, by decide⟩
theorem miX5_hold : Cond.instanceMethod yX5_hold ∈ xWd ∧ Cond.selects yX5_hold.cls yX5_hold yX5_hold ∈ xWd := ⟨xWd_in (List.mem_of_getElem? (i := 563) (by decide +kernel)) rfl, xWd_in (List.mem_of_getElem? (i := 18) (by decide +kernel)) rfl⟩
theorem wlX6_157 : Cond.methodLink RX6 157 yX5_bitsAt ∈ xWd := xWd_in (List.mem_of_getElem? (i := 565) (by decide +kernel)) rfl
theorem mdX5_bitsAt : xMd yX5_bitsAt cX5_bitsAt 2 (some .int) 1 := ⟨by decide +kernel, xWd_in (List.mem_of_getElem? (i := 568) (by decide +kernel)) rfl, xWd_in (List.mem_of_getElem? (i := 92) (by decide +kernel)) rfl, by decide +kernel, by decide⟩
theorem miX5_bitsAt : Cond.instanceMethod yX5_bitsAt ∈ xWd ∧ Cond.selects yX5_bitsAt.cls yX5_bitsAt yX5_bitsAt ∈ xWd := ⟨xWd_in (List.mem_of_getElem? (i := 566) (by decide +kernel)) rfl, xWd_in (List.mem_of_getElem? (i := 567) (by decide +kernel)) rfl⟩
theorem wlX5_95 : Cond.methodLink RX5 95 yX5_bitsBetween ∈ xWd := xWd_in (List.mem_of_getElem? (i := 569) (by decide +kernel)) rfl
theorem mdX5_bitsBetween : xMd yX5_bitsBetween cX5_bitsBetween 5 (some .int) 2 := ⟨by decide +kernel, xWd_in (List.mem_of_getElem? (i := 572) (by decide +kernel)) rfl, xWd_in (List.mem_of_getElem? (i := 92) (by decide +kernel)) rfl, by decide +kernel, by decide⟩
theorem miX5_bitsBetween : Cond.instanceMethod yX5_bitsBetween ∈ xWd ∧ Cond.selects yX5_bitsBetween.cls yX5_bitsBetween yX5_bitsBetween ∈ xWd := ⟨xWd_in (List.mem_of_getElem? (i := 571) (by decide +kernel)) rfl, xWd_in (List.mem_of_getElem? (i := 19) (by decide +kernel)) rfl⟩
theorem wlL_53 : Cond.methodLink RL 53 yX6_tip ∈ xWd := xWd_in (List.mem_of_getElem? (i := 573) (by decide +kernel)) rfl
theorem mdX6_tip : xMd yX6_tip cX6_tip 2 (some .int) 1 := ⟨by decide +kernel, xWd_in (List.mem_of_getElem? (i := 576) (by decide +kernel)) rfl, xWd_in (List.mem_of_getElem? (i := 88) (by decide +kernel)) rfl, by decide +kernel, by decide⟩
theorem miX6_tip : Cond.instanceMethod yX6_tip ∈ xWd ∧ Cond.selects yX6_tip.cls yX6_tip yX6_tip ∈ xWd := ⟨xWd_in (List.mem_of_getElem? (i := 574) (by decide +kernel)) rfl, xWd_in (List.mem_of_getElem? (i := 575) (by decide +kernel)) rfl⟩
theorem wlX6_160 : Cond.methodLink RX6 160 yX6_noPiece ∈ xWd := xWd_in (List.mem_of_getElem? (i := 577) (by decide +kernel)) rfl
theorem mdX6_noPiece : xMd yX6_noPiece cX6_noPiece 2 (some .boolean) 1 := ⟨by decide +kernel, xWd_in (List.mem_of_getElem? (i := 580) (by decide +kernel)) rfl, xWd_in (List.mem_of_getElem? (i := 88) (by decide +kernel)) rfl, by decide +kernel, by decide⟩
theorem miX6_noPiece : Cond.instanceMethod yX6_noPiece ∈ xWd ∧ Cond.selects yX6_noPiece.cls yX6_noPiece yX6_noPiece ∈ xWd := ⟨xWd_in (List.mem_of_getElem? (i := 579) (by decide +kernel)) rfl, xWd_in (List.mem_of_getElem? (i := 20) (by decide +kernel)) rfl⟩
theorem wlX6_163 : Cond.methodLink RX6 163 yX5_swing ∈ xWd := xWd_in (List.mem_of_getElem? (i := 581) (by decide +kernel)) rfl
theorem wlL_57 : Cond.methodLink RL 57 yX6_lead ∈ xWd := xWd_in (List.mem_of_getElem? (i := 582) (by decide +kernel)) rfl
theorem mdX6_lead : xMd yX6_lead cX6_lead 6 (some .int) 3 := ⟨by decide +kernel, xWd_in (List.mem_of_getElem? (i := 585) (by decide +kernel)) rfl, xWd_in (List.mem_of_getElem? (i := 88) (by decide +kernel)) rfl, by decide +kernel, by decide⟩
theorem miX6_lead : Cond.instanceMethod yX6_lead ∈ xWd ∧ Cond.selects yX6_lead.cls yX6_lead yX6_lead ∈ xWd := ⟨xWd_in (List.mem_of_getElem? (i := 583) (by decide +kernel)) rfl, xWd_in (List.mem_of_getElem? (i := 584) (by decide +kernel)) rfl⟩
theorem wlX6_171 : Cond.methodLink RX6 171 yX6_noSide ∈ xWd := xWd_in (List.mem_of_getElem? (i := 586) (by decide +kernel)) rfl
theorem mdX6_noSide : xMd yX6_noSide cX6_noSide 1 (some .boolean) 1 := ⟨by decide +kernel, xWd_in (List.mem_of_getElem? (i := 588) (by decide +kernel)) rfl, xWd_in (List.mem_of_getElem? (i := 88) (by decide +kernel)) rfl, by decide +kernel, by decide⟩
theorem msX6_noSide : Cond.static yX6_noSide ∈ xWd := xWd_in (List.mem_of_getElem? (i := 587) (by decide +kernel)) rfl
theorem wlL_61 : Cond.methodLink RL 61 yX6_again ∈ xWd := xWd_in (List.mem_of_getElem? (i := 589) (by decide +kernel)) rfl
theorem mdX6_again : xMd yX6_again cX6_again 3 (some .int) 2 := ⟨by decide +kernel, xWd_in (List.mem_of_getElem? (i := 592) (by decide +kernel)) rfl, xWd_in (List.mem_of_getElem? (i := 88) (by decide +kernel)) rfl, by decide +kernel, by decide⟩
theorem miX6_again : Cond.instanceMethod yX6_again ∈ xWd ∧ Cond.selects yX6_again.cls yX6_again yX6_again ∈ xWd := ⟨xWd_in (List.mem_of_getElem? (i := 590) (by decide +kernel)) rfl, xWd_in (List.mem_of_getElem? (i := 591) (by decide +kernel)) rfl⟩
theorem wlX6_180 : Cond.methodLink RX6 180 yX6_noMarble ∈ xWd := xWd_in (List.mem_of_getElem? (i := 593) (by decide +kernel)) rfl
theorem mdX6_noMarble : xMd yX6_noMarble cX6_noMarble 2 (some .boolean) 1 := ⟨by decide +kernel, xWd_in (List.mem_of_getElem? (i := 596) (by decide +kernel)) rfl, xWd_in (List.mem_of_getElem? (i := 88) (by decide +kernel)) rfl, by decide +kernel, by decide⟩
theorem miX6_noMarble : Cond.instanceMethod yX6_noMarble ∈ xWd ∧ Cond.selects yX6_noMarble.cls yX6_noMarble yX6_noMarble ∈ xWd := ⟨xWd_in (List.mem_of_getElem? (i := 595) (by decide +kernel)) rfl, xWd_in (List.mem_of_getElem? (i := 21) (by decide +kernel)) rfl⟩
theorem wlX6_183 : Cond.methodLink RX6 183 yX5_isInTray ∈ xWd := xWd_in (List.mem_of_getElem? (i := 597) (by decide +kernel)) rfl
theorem mdX5_isInTray : xMd yX5_isInTray cX5_isInTray 2 (some .boolean) 1 := ⟨by decide +kernel, xWd_in (List.mem_of_getElem? (i := 600) (by decide +kernel)) rfl, xWd_in (List.mem_of_getElem? (i := 92) (by decide +kernel)) rfl, by decide +kernel, by decide⟩
theorem miX5_isInTray : Cond.instanceMethod yX5_isInTray ∈ xWd ∧ Cond.selects yX5_isInTray.cls yX5_isInTray yX5_isInTray ∈ xWd := ⟨xWd_in (List.mem_of_getElem? (i := 598) (by decide +kernel)) rfl, xWd_in (List.mem_of_getElem? (i := 599) (by decide +kernel)) rfl⟩
theorem wlX6_186 : Cond.methodLink RX6 186 yX5_throwAnew ∈ xWd := xWd_in (List.mem_of_getElem? (i := 601) (by decide +kernel)) rfl
theorem mdX5_throwAnew : xMd yX5_throwAnew cX5_throwAnew 3 none 2 := ⟨by decide +kernel, xWd_in (List.mem_of_getElem? (i := 604) (by decide +kernel)) rfl, xWd_in (List.mem_of_getElem? (i := 92) (by decide +kernel)) rfl, by decide +kernel, by decide⟩
theorem miX5_throwAnew : Cond.instanceMethod yX5_throwAnew ∈ xWd ∧ Cond.selects yX5_throwAnew.cls yX5_throwAnew yX5_throwAnew ∈ xWd := ⟨xWd_in (List.mem_of_getElem? (i := 602) (by decide +kernel)) rfl, xWd_in (List.mem_of_getElem? (i := 603) (by decide +kernel)) rfl⟩
theorem wlL_66 : Cond.methodLink RL 66 yX6_marble ∈ xWd := xWd_in (List.mem_of_getElem? (i := 605) (by decide +kernel)) rfl
theorem mdX6_marble : xMd yX6_marble cX6_marble 3 (some .int) 2 := ⟨by decide +kernel, xWd_in (List.mem_of_getElem? (i := 608) (by decide +kernel)) rfl, xWd_in (List.mem_of_getElem? (i := 88) (by decide +kernel)) rfl, by decide +kernel, by decide⟩
theorem miX6_marble : Cond.instanceMethod yX6_marble ∈ xWd ∧ Cond.selects yX6_marble.cls yX6_marble yX6_marble ∈ xWd := ⟨xWd_in (List.mem_of_getElem? (i := 606) (by decide +kernel)) rfl, xWd_in (List.mem_of_getElem? (i := 607) (by decide +kernel)) rfl⟩
theorem wlL_70 : Cond.methodLink RL 70 yX6_piece ∈ xWd := xWd_in (List.mem_of_getElem? (i := 609) (by decide +kernel)) rfl
theorem mdX6_piece : xMd yX6_piece cX6_piece 3 (some .int) 2 := ⟨by decide +kernel, xWd_in (List.mem_of_getElem? (i := 612) (by decide +kernel)) rfl, xWd_in (List.mem_of_getElem? (i := 88) (by decide +kernel)) rfl, by decide +kernel, by decide⟩
theorem miX6_piece : Cond.instanceMethod yX6_piece ∈ xWd ∧ Cond.selects yX6_piece.cls yX6_piece yX6_piece ∈ xWd := ⟨xWd_in (List.mem_of_getElem? (i := 610) (by decide +kernel)) rfl, xWd_in (List.mem_of_getElem? (i := 611) (by decide +kernel)) rfl⟩
theorem wlL_74 : Cond.methodLink RL 74 yX6_stand ∈ xWd := xWd_in (List.mem_of_getElem? (i := 613) (by decide +kernel)) rfl
theorem mdX6_stand : xMd yX6_stand cX6_stand 2 (some .int) 1 := ⟨by decide +kernel, xWd_in (List.mem_of_getElem? (i := 616) (by decide +kernel)) rfl, xWd_in (List.mem_of_getElem? (i := 88) (by decide +kernel)) rfl, by decide +kernel, by decide⟩
theorem miX6_stand : Cond.instanceMethod yX6_stand ∈ xWd ∧ Cond.selects yX6_stand.cls yX6_stand yX6_stand ∈ xWd := ⟨xWd_in (List.mem_of_getElem? (i := 614) (by decide +kernel)) rfl, xWd_in (List.mem_of_getElem? (i := 615) (by decide +kernel)) rfl⟩
theorem wlX6_211 : Cond.methodLink RX6 211 yX5_bitsRunning ∈ xWd := xWd_in (List.mem_of_getElem? (i := 617) (by decide +kernel)) rfl
theorem mdX5_bitsRunning : xMd yX5_bitsRunning cX5_bitsRunning 1 (some .int) 0 := ⟨by decide +kernel, xWd_in (List.mem_of_getElem? (i := 620) (by decide +kernel)) rfl, xWd_in (List.mem_of_getElem? (i := 92) (by decide +kernel)) rfl, by decide +kernel, by decide⟩
theorem miX5_bitsRunning : Cond.instanceMethod yX5_bitsRunning ∈ xWd ∧ Cond.selects yX5_bitsRunning.cls yX5_bitsRunning yX5_bitsRunning ∈ xWd := ⟨xWd_in (List.mem_of_getElem? (i := 618) (by decide +kernel)) rfl, xWd_in (List.mem_of_getElem? (i := 619) (by decide +kernel)) rfl⟩
theorem wlX6_214 : Cond.methodLink RX6 214 yX5_bitsHeld ∈ xWd := xWd_in (List.mem_of_getElem? (i := 621) (by decide +kernel)) rfl
theorem mdX5_bitsHeld : xMd yX5_bitsHeld cX5_bitsHeld 1 (some .int) 0 := ⟨by decide +kernel, xWd_in (List.mem_of_getElem? (i := 624) (by decide +kernel)) rfl, xWd_in (List.mem_of_getElem? (i := 92) (by decide +kernel)) rfl, by decide +kernel, by decide⟩
theorem miX5_bitsHeld : Cond.instanceMethod yX5_bitsHeld ∈ xWd ∧ Cond.selects yX5_bitsHeld.cls yX5_bitsHeld yX5_bitsHeld ∈ xWd := ⟨xWd_in (List.mem_of_getElem? (i := 622) (by decide +kernel)) rfl, xWd_in (List.mem_of_getElem? (i := 623) (by decide +kernel)) rfl⟩
theorem wlL_78 : Cond.methodLink RL 78 yX6_ahead ∈ xWd := xWd_in (List.mem_of_getElem? (i := 625) (by decide +kernel)) rfl
theorem mdX6_ahead : xMd yX6_ahead cX6_ahead 3 (some .int) 2 := ⟨by decide +kernel, xWd_in (List.mem_of_getElem? (i := 628) (by decide +kernel)) rfl, xWd_in (List.mem_of_getElem? (i := 88) (by decide +kernel)) rfl, by decide +kernel, by decide⟩
theorem miX6_ahead : Cond.instanceMethod yX6_ahead ∈ xWd ∧ Cond.selects yX6_ahead.cls yX6_ahead yX6_ahead ∈ xWd := ⟨xWd_in (List.mem_of_getElem? (i := 626) (by decide +kernel)) rfl, xWd_in (List.mem_of_getElem? (i := 627) (by decide +kernel)) rfl⟩
theorem wlX6_220 : Cond.methodLink RX6 220 yX3_behind ∈ xWd := xWd_in (List.mem_of_getElem? (i := 629) (by decide +kernel)) rfl
theorem mdX3_behind : xMd yX3_behind cX3_behind 3 (some (.object "MarbleRun$Track")) 2 := ⟨by decide +kernel, xWd_in (List.mem_of_getElem? (i := 632) (by decide +kernel)) rfl, xWd_in (List.mem_of_getElem? (i := 94) (by decide +kernel)) rfl, by decide +kernel, by decide⟩
theorem miX3_behind : Cond.instanceMethod yX3_behind ∈ xWd ∧ Cond.selects yX3_behind.cls yX3_behind yX3_behind ∈ xWd := ⟨xWd_in (List.mem_of_getElem? (i := 630) (by decide +kernel)) rfl, xWd_in (List.mem_of_getElem? (i := 631) (by decide +kernel)) rfl⟩
theorem wlX3_51 : Cond.methodLink RX3 51 yX5_becomeLike ∈ xWd := xWd_in (List.mem_of_getElem? (i := 633) (by decide +kernel)) rfl
theorem wlX3_55 : Cond.methodLink RX3 55 yX3_goOn ∈ xWd := xWd_in (List.mem_of_getElem? (i := 634) (by decide +kernel)) rfl
theorem mdX3_goOn : xMd yX3_goOn cX3_goOn 3 none 1 := ⟨by decide +kernel, xWd_in (List.mem_of_getElem? (i := 637) (by decide +kernel)) rfl, xWd_in (List.mem_of_getElem? (i := 94) (by decide +kernel)) rfl, by decide +kernel, by decide⟩
theorem miX3_goOn : Cond.instanceMethod yX3_goOn ∈ xWd ∧ Cond.selects yX3_goOn.cls yX3_goOn yX3_goOn ∈ xWd := ⟨xWd_in (List.mem_of_getElem? (i := 636) (by decide +kernel)) rfl, xWd_in (List.mem_of_getElem? (i := 22) (by decide +kernel)) rfl⟩
theorem wlX3_59 : Cond.methodLink RX3 59 yX5_isAstir ∈ xWd := xWd_in (List.mem_of_getElem? (i := 638) (by decide +kernel)) rfl
theorem mdX5_isAstir : xMd yX5_isAstir cX5_isAstir 2 (some .boolean) 0 := ⟨by decide +kernel, xWd_in (List.mem_of_getElem? (i := 641) (by decide +kernel)) rfl, xWd_in (List.mem_of_getElem? (i := 92) (by decide +kernel)) rfl, by decide +kernel, by decide⟩
theorem miX5_isAstir : Cond.instanceMethod yX5_isAstir ∈ xWd ∧ Cond.selects yX5_isAstir.cls yX5_isAstir yX5_isAstir ∈ xWd := ⟨xWd_in (List.mem_of_getElem? (i := 639) (by decide +kernel)) rfl, xWd_in (List.mem_of_getElem? (i := 640) (by decide +kernel)) rfl⟩
theorem wlX3_63 : Cond.methodLink RX3 63 yX5_pass ∈ xWd := xWd_in (List.mem_of_getElem? (i := 642) (by decide +kernel)) rfl
theorem wlL_82 : Cond.methodLink RL 82 yX6_stands ∈ xWd := xWd_in (List.mem_of_getElem? (i := 643) (by decide +kernel)) rfl
theorem mdX6_stands : xMd yX6_stands cX6_stands 5 (some .int) 3 := ⟨by decide +kernel, xWd_in (List.mem_of_getElem? (i := 646) (by decide +kernel)) rfl, xWd_in (List.mem_of_getElem? (i := 88) (by decide +kernel)) rfl, by decide +kernel, by decide⟩
theorem miX6_stands : Cond.instanceMethod yX6_stands ∈ xWd ∧ Cond.selects yX6_stands.cls yX6_stands yX6_stands ∈ xWd := ⟨xWd_in (List.mem_of_getElem? (i := 644) (by decide +kernel)) rfl, xWd_in (List.mem_of_getElem? (i := 645) (by decide +kernel)) rfl⟩
theorem wlL_86 : Cond.methodLink RL 86 yX6_trays ∈ xWd := xWd_in (List.mem_of_getElem? (i := 647) (by decide +kernel)) rfl
theorem mdX6_trays : xMd yX6_trays cX6_trays 3 (some .int) 2 := ⟨by decide +kernel, xWd_in (List.mem_of_getElem? (i := 650) (by decide +kernel)) rfl, xWd_in (List.mem_of_getElem? (i := 88) (by decide +kernel)) rfl, by decide +kernel, by decide⟩
theorem miX6_trays : Cond.instanceMethod yX6_trays ∈ xWd ∧ Cond.selects yX6_trays.cls yX6_trays yX6_trays ∈ xWd := ⟨xWd_in (List.mem_of_getElem? (i := 648) (by decide +kernel)) rfl, xWd_in (List.mem_of_getElem? (i := 649) (by decide +kernel)) rfl⟩
theorem wlL_90 : Cond.methodLink RL 90 yX6_when ∈ xWd := xWd_in (List.mem_of_getElem? (i := 651) (by decide +kernel)) rfl
theorem mdX6_when : xMd yX6_when cX6_when 2 (some .int) 1 := ⟨by decide +kernel, xWd_in (List.mem_of_getElem? (i := 654) (by decide +kernel)) rfl, xWd_in (List.mem_of_getElem? (i := 88) (by decide +kernel)) rfl, by decide +kernel, by decide⟩
theorem miX6_when : Cond.instanceMethod yX6_when ∈ xWd ∧ Cond.selects yX6_when.cls yX6_when yX6_when ∈ xWd := ⟨xWd_in (List.mem_of_getElem? (i := 652) (by decide +kernel)) rfl, xWd_in (List.mem_of_getElem? (i := 653) (by decide +kernel)) rfl⟩
theorem wlX6_224 : Cond.methodLink RX6 224 yX3_ticksToTray ∈ xWd := xWd_in (List.mem_of_getElem? (i := 655) (by decide +kernel)) rfl
theorem mdX3_ticksToTray : xMd yX3_ticksToTray cX3_ticksToTray 5 (some .int) 3 := ⟨by decide +kernel, xWd_in (List.mem_of_getElem? (i := 658) (by decide +kernel)) rfl, xWd_in (List.mem_of_getElem? (i := 94) (by decide +kernel)) rfl, by decide +kernel, by decide⟩
theorem miX3_ticksToTray : Cond.instanceMethod yX3_ticksToTray ∈ xWd ∧ Cond.selects yX3_ticksToTray.cls yX3_ticksToTray yX3_ticksToTray ∈ xWd := ⟨xWd_in (List.mem_of_getElem? (i := 656) (by decide +kernel)) rfl, xWd_in (List.mem_of_getElem? (i := 657) (by decide +kernel)) rfl⟩
theorem wlX3_66 : Cond.methodLink RX3 66 yX5_isInTray ∈ xWd := xWd_in (List.mem_of_getElem? (i := 659) (by decide +kernel)) rfl
theorem wkX3_50 : Cond.constant RX3 50 (-1000000) ∈ xWd := xWd_in (List.mem_of_getElem? (i := 660) (by decide +kernel)) rfl
theorem wlL_94 : Cond.methodLink RL 94 yX6_rest ∈ xWd := xWd_in (List.mem_of_getElem? (i := 661) (by decide +kernel)) rfl
theorem mdX6_rest : xMd yX6_rest cX6_rest 1 (some .int) 0 := ⟨by decide +kernel, xWd_in (List.mem_of_getElem? (i := 664) (by decide +kernel)) rfl, xWd_in (List.mem_of_getElem? (i := 88) (by decide +kernel)) rfl, by decide +kernel, by decide⟩
theorem miX6_rest : Cond.instanceMethod yX6_rest ∈ xWd ∧ Cond.selects yX6_rest.cls yX6_rest yX6_rest ∈ xWd := ⟨xWd_in (List.mem_of_getElem? (i := 662) (by decide +kernel)) rfl, xWd_in (List.mem_of_getElem? (i := 663) (by decide +kernel)) rfl⟩
theorem wlX6_228 : Cond.methodLink RX6 228 yX3_ticksToRest ∈ xWd := xWd_in (List.mem_of_getElem? (i := 665) (by decide +kernel)) rfl
theorem mdX3_ticksToRest : xMd yX3_ticksToRest cX3_ticksToRest 4 (some .int) 2 := ⟨by decide +kernel, xWd_in (List.mem_of_getElem? (i := 668) (by decide +kernel)) rfl, xWd_in (List.mem_of_getElem? (i := 94) (by decide +kernel)) rfl, by decide +kernel, by decide⟩
theorem miX3_ticksToRest : Cond.instanceMethod yX3_ticksToRest ∈ xWd ∧ Cond.selects yX3_ticksToRest.cls yX3_ticksToRest yX3_ticksToRest ∈ xWd := ⟨xWd_in (List.mem_of_getElem? (i := 666) (by decide +kernel)) rfl, xWd_in (List.mem_of_getElem? (i := 667) (by decide +kernel)) rfl⟩
theorem wlL_98 : Cond.methodLink RL 98 yX6_tips ∈ xWd := xWd_in (List.mem_of_getElem? (i := 669) (by decide +kernel)) rfl
theorem mdX6_tips : xMd yX6_tips cX6_tips 3 (some .int) 2 := ⟨by decide +kernel, xWd_in (List.mem_of_getElem? (i := 672) (by decide +kernel)) rfl, xWd_in (List.mem_of_getElem? (i := 88) (by decide +kernel)) rfl, by decide +kernel, by decide⟩
theorem miX6_tips : Cond.instanceMethod yX6_tips ∈ xWd ∧ Cond.selects yX6_tips.cls yX6_tips yX6_tips ∈ xWd := ⟨xWd_in (List.mem_of_getElem? (i := 670) (by decide +kernel)) rfl, xWd_in (List.mem_of_getElem? (i := 671) (by decide +kernel)) rfl⟩
theorem wlX6_232 : Cond.methodLink RX6 232 yX3_chooseTips ∈ xWd := xWd_in (List.mem_of_getElem? (i := 673) (by decide +kernel)) rfl
theorem mdX3_chooseTips : xMd yX3_chooseTips cX3_chooseTips 5 none 2 := ⟨by decide +kernel, xWd_in (List.mem_of_getElem? (i := 676) (by decide +kernel)) rfl, xWd_in (List.mem_of_getElem? (i := 94) (by decide +kernel)) rfl, by decide +kernel, by decide⟩
theorem miX3_chooseTips : Cond.instanceMethod yX3_chooseTips ∈ xWd ∧ Cond.selects yX3_chooseTips.cls yX3_chooseTips yX3_chooseTips ∈ xWd := ⟨xWd_in (List.mem_of_getElem? (i := 674) (by decide +kernel)) rfl, xWd_in (List.mem_of_getElem? (i := 675) (by decide +kernel)) rfl⟩
theorem wlX3_70 : Cond.methodLink RX3 70 yX5_bitsPointed ∈ xWd := xWd_in (List.mem_of_getElem? (i := 677) (by decide +kernel)) rfl
theorem mdX5_bitsPointed : xMd yX5_bitsPointed cX5_bitsPointed 3 (some .int) 0 := ⟨by decide +kernel, xWd_in (List.mem_of_getElem? (i := 680) (by decide +kernel)) rfl, xWd_in (List.mem_of_getElem? (i := 92) (by decide +kernel)) rfl, by decide +kernel, by decide⟩
theorem miX5_bitsPointed : Cond.instanceMethod yX5_bitsPointed ∈ xWd ∧ Cond.selects yX5_bitsPointed.cls yX5_bitsPointed yX5_bitsPointed ∈ xWd := ⟨xWd_in (List.mem_of_getElem? (i := 678) (by decide +kernel)) rfl, xWd_in (List.mem_of_getElem? (i := 679) (by decide +kernel)) rfl⟩
theorem wlX3_74 : Cond.methodLink RX3 74 yX5_swingAll ∈ xWd := xWd_in (List.mem_of_getElem? (i := 681) (by decide +kernel)) rfl
theorem mdX5_swingAll : xMd yX5_swingAll cX5_swingAll 3 none 1 := ⟨by decide +kernel, xWd_in (List.mem_of_getElem? (i := 684) (by decide +kernel)) rfl, xWd_in (List.mem_of_getElem? (i := 92) (by decide +kernel)) rfl, by decide +kernel, by decide⟩
theorem miX5_swingAll : Cond.instanceMethod yX5_swingAll ∈ xWd ∧ Cond.selects yX5_swingAll.cls yX5_swingAll yX5_swingAll ∈ xWd := ⟨xWd_in (List.mem_of_getElem? (i := 682) (by decide +kernel)) rfl, xWd_in (List.mem_of_getElem? (i := 683) (by decide +kernel)) rfl⟩
theorem wlX3_77 : Cond.methodLink RX3 77 yX5_manyAt ∈ xWd := xWd_in (List.mem_of_getElem? (i := 685) (by decide +kernel)) rfl
theorem mdX5_manyAt : xMd yX5_manyAt cX5_manyAt 2 (some .int) 1 := ⟨by decide +kernel, xWd_in (List.mem_of_getElem? (i := 688) (by decide +kernel)) rfl, xWd_in (List.mem_of_getElem? (i := 92) (by decide +kernel)) rfl, by decide +kernel, by decide⟩
theorem miX5_manyAt : Cond.instanceMethod yX5_manyAt ∈ xWd ∧ Cond.selects yX5_manyAt.cls yX5_manyAt yX5_manyAt ∈ xWd := ⟨xWd_in (List.mem_of_getElem? (i := 686) (by decide +kernel)) rfl, xWd_in (List.mem_of_getElem? (i := 687) (by decide +kernel)) rfl⟩
theorem wlX5_98 : Cond.methodLink RX5 98 yX5_bitsAt ∈ xWd := xWd_in (List.mem_of_getElem? (i := 689) (by decide +kernel)) rfl
theorem wlX5_102 : Cond.methodLink RX5 102 yJ6_bitCount_0f7a4 ∈ xWd := xWd_in (List.mem_of_getElem? (i := 690) (by decide +kernel)) rfl
theorem mdJ6_bitCount_0f7a4 : xMd yJ6_bitCount_0f7a4 cJ6_bitCount_0f7a4 1 (some .int) 1 := ⟨by decide +kernel, xWd_in (List.mem_of_getElem? (i := 692) (by decide +kernel)) rfl, xWd_in (List.mem_of_getElem? (i := 99) (by decide +kernel)) rfl, by decide +kernel, by decide⟩
theorem msJ6_bitCount_0f7a4 : Cond.static yJ6_bitCount_0f7a4 ∈ xWd := xWd_in (List.mem_of_getElem? (i := 691) (by decide +kernel)) rfl
theorem wkJ6_265 : Cond.constant RJ6 265 1431655765 ∈ xWd := xWd_in (List.mem_of_getElem? (i := 693) (by decide +kernel)) rfl
theorem wkJ6_266 : Cond.constant RJ6 266 858993459 ∈ xWd := xWd_in (List.mem_of_getElem? (i := 694) (by decide +kernel)) rfl
theorem wkJ6_267 : Cond.constant RJ6 267 252645135 ∈ xWd := xWd_in (List.mem_of_getElem? (i := 695) (by decide +kernel)) rfl
theorem wlX3_81 : Cond.methodLink RX3 81 yX3_preferTips ∈ xWd := xWd_in (List.mem_of_getElem? (i := 696) (by decide +kernel)) rfl
theorem mdX3_preferTips : xMd yX3_preferTips cX3_preferTips 4 none 2 := ⟨by decide +kernel, xWd_in (List.mem_of_getElem? (i := 699) (by decide +kernel)) rfl, xWd_in (List.mem_of_getElem? (i := 94) (by decide +kernel)) rfl, by decide +kernel, by decide⟩
theorem miX3_preferTips : Cond.instanceMethod yX3_preferTips ∈ xWd ∧ Cond.selects yX3_preferTips.cls yX3_preferTips yX3_preferTips ∈ xWd := ⟨xWd_in (List.mem_of_getElem? (i := 698) (by decide +kernel)) rfl, xWd_in (List.mem_of_getElem? (i := 23) (by decide +kernel)) rfl⟩
theorem wlX3_85 : Cond.methodLink RX3 85 yJ6_bitCount_0f7a4 ∈ xWd := xWd_in (List.mem_of_getElem? (i := 700) (by decide +kernel)) rfl
theorem wlX6_236 : Cond.methodLink RX6 236 yX3_chosen ∈ xWd := xWd_in (List.mem_of_getElem? (i := 701) (by decide +kernel)) rfl
theorem mdX3_chosen : xMd yX3_chosen cX3_chosen 1 (some .int) 0 := ⟨by decide +kernel, xWd_in (List.mem_of_getElem? (i := 704) (by decide +kernel)) rfl, xWd_in (List.mem_of_getElem? (i := 94) (by decide +kernel)) rfl, by decide +kernel, by decide⟩
theorem miX3_chosen : Cond.instanceMethod yX3_chosen ∈ xWd ∧ Cond.selects yX3_chosen.cls yX3_chosen yX3_chosen ∈ xWd := ⟨xWd_in (List.mem_of_getElem? (i := 702) (by decide +kernel)) rfl, xWd_in (List.mem_of_getElem? (i := 703) (by decide +kernel)) rfl⟩
theorem wlX6_239 : Cond.methodLink RX6 239 yX3_most ∈ xWd := xWd_in (List.mem_of_getElem? (i := 705) (by decide +kernel)) rfl
theorem mdX3_most : xMd yX3_most cX3_most 1 (some .int) 0 := ⟨by decide +kernel, xWd_in (List.mem_of_getElem? (i := 708) (by decide +kernel)) rfl, xWd_in (List.mem_of_getElem? (i := 94) (by decide +kernel)) rfl, by decide +kernel, by decide⟩
theorem miX3_most : Cond.instanceMethod yX3_most ∈ xWd ∧ Cond.selects yX3_most.cls yX3_most yX3_most ∈ xWd := ⟨xWd_in (List.mem_of_getElem? (i := 706) (by decide +kernel)) rfl, xWd_in (List.mem_of_getElem? (i := 707) (by decide +kernel)) rfl⟩
theorem wlL_102 : Cond.methodLink RL 102 yX6_order ∈ xWd := xWd_in (List.mem_of_getElem? (i := 709) (by decide +kernel)) rfl
theorem mdX6_order : xMd yX6_order cX6_order 3 (some .int) 2 := ⟨by decide +kernel, xWd_in (List.mem_of_getElem? (i := 712) (by decide +kernel)) rfl, xWd_in (List.mem_of_getElem? (i := 88) (by decide +kernel)) rfl, by decide +kernel, by decide⟩
theorem miX6_order : Cond.instanceMethod yX6_order ∈ xWd ∧ Cond.selects yX6_order.cls yX6_order yX6_order ∈ xWd := ⟨xWd_in (List.mem_of_getElem? (i := 710) (by decide +kernel)) rfl, xWd_in (List.mem_of_getElem? (i := 711) (by decide +kernel)) rfl⟩
theorem wkX6_245 : Cond.constant RX6 245 (-1000000) ∈ xWd := xWd_in (List.mem_of_getElem? (i := 713) (by decide +kernel)) rfl
theorem wlX6_246 : Cond.methodLink RX6 246 yX3_chooseOrder ∈ xWd := xWd_in (List.mem_of_getElem? (i := 714) (by decide +kernel)) rfl
theorem mdX3_chooseOrder : xMd yX3_chooseOrder cX3_chooseOrder 5 none 2 := ⟨by decide +kernel, xWd_in (List.mem_of_getElem? (i := 717) (by decide +kernel)) rfl, xWd_in (List.mem_of_getElem? (i := 94) (by decide +kernel)) rfl, by decide +kernel, by decide⟩
theorem miX3_chooseOrder : Cond.instanceMethod yX3_chooseOrder ∈ xWd ∧ Cond.selects yX3_chooseOrder.cls yX3_chooseOrder yX3_chooseOrder ∈ xWd := ⟨xWd_in (List.mem_of_getElem? (i := 715) (by decide +kernel)) rfl, xWd_in (List.mem_of_getElem? (i := 716) (by decide +kernel)) rfl⟩
theorem wlX3_93 : Cond.methodLink RX3 93 yJ7_fill_53178 ∈ xWd := xWd_in (List.mem_of_getElem? (i := 718) (by decide +kernel)) rfl
theorem wlX3_102 : Cond.methodLink RX3 102 yX3_rightOnes ∈ xWd := xWd_in (List.mem_of_getElem? (i := 719) (by decide +kernel)) rfl
theorem mdX3_rightOnes : xMd yX3_rightOnes cX3_rightOnes 6 (some .int) 2 := ⟨by decide +kernel, xWd_in (List.mem_of_getElem? (i := 722) (by decide +kernel)) rfl, xWd_in (List.mem_of_getElem? (i := 94) (by decide +kernel)) rfl, by decide +kernel, by decide⟩
theorem miX3_rightOnes : Cond.instanceMethod yX3_rightOnes ∈ xWd ∧ Cond.selects yX3_rightOnes.cls yX3_rightOnes yX3_rightOnes ∈ xWd := ⟨xWd_in (List.mem_of_getElem? (i := 721) (by decide +kernel)) rfl, xWd_in (List.mem_of_getElem? (i := 24) (by decide +kernel)) rfl⟩
theorem wlX3_119 : Cond.methodLink RX3 119 yX5_bitsAt ∈ xWd := xWd_in (List.mem_of_getElem? (i := 723) (by decide +kernel)) rfl
theorem wlX3_106 : Cond.methodLink RX3 106 yX3_preferOrder ∈ xWd := xWd_in (List.mem_of_getElem? (i := 724) (by decide +kernel)) rfl
theorem mdX3_preferOrder : xMd yX3_preferOrder cX3_preferOrder 5 none 2 := ⟨by decide +kernel, xWd_in (List.mem_of_getElem? (i := 727) (by decide +kernel)) rfl, xWd_in (List.mem_of_getElem? (i := 94) (by decide +kernel)) rfl, by decide +kernel, by decide⟩
theorem miX3_preferOrder : Cond.instanceMethod yX3_preferOrder ∈ xWd ∧ Cond.selects yX3_preferOrder.cls yX3_preferOrder yX3_preferOrder ∈ xWd := ⟨xWd_in (List.mem_of_getElem? (i := 726) (by decide +kernel)) rfl, xWd_in (List.mem_of_getElem? (i := 25) (by decide +kernel)) rfl⟩
theorem wlX3_122 : Cond.methodLink RX3 122 arraycopyName ∈ xWd := xWd_in (List.mem_of_getElem? (i := 728) (by decide +kernel)) rfl
theorem wlX3_110 : Cond.methodLink RX3 110 yX3_stepToNextOrder ∈ xWd := xWd_in (List.mem_of_getElem? (i := 729) (by decide +kernel)) rfl
theorem mdX3_stepToNextOrder : xMd yX3_stepToNextOrder cX3_stepToNextOrder 7 (some .boolean) 1 := ⟨by decide +kernel, xWd_in (List.mem_of_getElem? (i := 732) (by decide +kernel)) rfl, xWd_in (List.mem_of_getElem? (i := 94) (by decide +kernel)) rfl, by decide +kernel, by decide⟩
theorem miX3_stepToNextOrder : Cond.instanceMethod yX3_stepToNextOrder ∈ xWd ∧ Cond.selects yX3_stepToNextOrder.cls yX3_stepToNextOrder yX3_stepToNextOrder ∈ xWd := ⟨xWd_in (List.mem_of_getElem? (i := 731) (by decide +kernel)) rfl, xWd_in (List.mem_of_getElem? (i := 26) (by decide +kernel)) rfl⟩
theorem wlX3_128 : Cond.methodLink RX3 128 yX3_swapTried ∈ xWd := xWd_in (List.mem_of_getElem? (i := 733) (by decide +kernel)) rfl
theorem mdX3_swapTried : xMd yX3_swapTried cX3_swapTried 4 none 2 := ⟨by decide +kernel, xWd_in (List.mem_of_getElem? (i := 736) (by decide +kernel)) rfl, xWd_in (List.mem_of_getElem? (i := 94) (by decide +kernel)) rfl, by decide +kernel, by decide⟩
theorem miX3_swapTried : Cond.instanceMethod yX3_swapTried ∈ xWd ∧ Cond.selects yX3_swapTried.cls yX3_swapTried yX3_swapTried ∈ xWd := ⟨xWd_in (List.mem_of_getElem? (i := 735) (by decide +kernel)) rfl, xWd_in (List.mem_of_getElem? (i := 27) (by decide +kernel)) rfl⟩
theorem wlX6_249 : Cond.methodLink RX6 249 yX3_chosenAt ∈ xWd := xWd_in (List.mem_of_getElem? (i := 737) (by decide +kernel)) rfl
theorem mdX3_chosenAt : xMd yX3_chosenAt cX3_chosenAt 2 (some .int) 1 := ⟨by decide +kernel, xWd_in (List.mem_of_getElem? (i := 740) (by decide +kernel)) rfl, xWd_in (List.mem_of_getElem? (i := 94) (by decide +kernel)) rfl, by decide +kernel, by decide⟩
theorem miX3_chosenAt : Cond.instanceMethod yX3_chosenAt ∈ xWd ∧ Cond.selects yX3_chosenAt.cls yX3_chosenAt yX3_chosenAt ∈ xWd := ⟨xWd_in (List.mem_of_getElem? (i := 738) (by decide +kernel)) rfl, xWd_in (List.mem_of_getElem? (i := 739) (by decide +kernel)) rfl⟩
theorem wlL_106 : Cond.methodLink RL 106 yX6_leads ∈ xWd := xWd_in (List.mem_of_getElem? (i := 741) (by decide +kernel)) rfl
theorem mdX6_leads : xMd yX6_leads cX6_leads 4 (some .int) 3 := ⟨by decide +kernel, xWd_in (List.mem_of_getElem? (i := 744) (by decide +kernel)) rfl, xWd_in (List.mem_of_getElem? (i := 88) (by decide +kernel)) rfl, by decide +kernel, by decide⟩
theorem miX6_leads : Cond.instanceMethod yX6_leads ∈ xWd ∧ Cond.selects yX6_leads.cls yX6_leads yX6_leads ∈ xWd := ⟨xWd_in (List.mem_of_getElem? (i := 742) (by decide +kernel)) rfl, xWd_in (List.mem_of_getElem? (i := 743) (by decide +kernel)) rfl⟩
theorem wlX6_252 : Cond.methodLink RX6 252 yX3_chooseLead ∈ xWd := xWd_in (List.mem_of_getElem? (i := 745) (by decide +kernel)) rfl
theorem mdX3_chooseLead : xMd yX3_chooseLead cX3_chooseLead 6 none 3 := ⟨by decide +kernel, xWd_in (List.mem_of_getElem? (i := 748) (by decide +kernel)) rfl, xWd_in (List.mem_of_getElem? (i := 94) (by decide +kernel)) rfl, by decide +kernel, by decide⟩
theorem miX3_chooseLead : Cond.instanceMethod yX3_chooseLead ∈ xWd ∧ Cond.selects yX3_chooseLead.cls yX3_chooseLead yX3_chooseLead ∈ xWd := ⟨xWd_in (List.mem_of_getElem? (i := 746) (by decide +kernel)) rfl, xWd_in (List.mem_of_getElem? (i := 747) (by decide +kernel)) rfl⟩
theorem wlL_110 : Cond.methodLink RL 110 yX6_sets ∈ xWd := xWd_in (List.mem_of_getElem? (i := 749) (by decide +kernel)) rfl
theorem mdX6_sets : xMd yX6_sets cX6_sets 3 (some .int) 2 := ⟨by decide +kernel, xWd_in (List.mem_of_getElem? (i := 752) (by decide +kernel)) rfl, xWd_in (List.mem_of_getElem? (i := 88) (by decide +kernel)) rfl, by decide +kernel, by decide⟩
theorem miX6_sets : Cond.instanceMethod yX6_sets ∈ xWd ∧ Cond.selects yX6_sets.cls yX6_sets yX6_sets ∈ xWd := ⟨xWd_in (List.mem_of_getElem? (i := 750) (by decide +kernel)) rfl, xWd_in (List.mem_of_getElem? (i := 751) (by decide +kernel)) rfl⟩
theorem wlX6_256 : Cond.methodLink RX6 256 yX6_setsOf ∈ xWd := xWd_in (List.mem_of_getElem? (i := 753) (by decide +kernel)) rfl
theorem mdX6_setsOf : xMd yX6_setsOf cX6_setsOf 8 (some .int) 2 := ⟨by decide +kernel, xWd_in (List.mem_of_getElem? (i := 756) (by decide +kernel)) rfl, xWd_in (List.mem_of_getElem? (i := 88) (by decide +kernel)) rfl, by decide +kernel, by decide⟩
theorem miX6_setsOf : Cond.instanceMethod yX6_setsOf ∈ xWd ∧ Cond.selects yX6_setsOf.cls yX6_setsOf yX6_setsOf ∈ xWd := ⟨xWd_in (List.mem_of_getElem? (i := 755) (by decide +kernel)) rfl, xWd_in (List.mem_of_getElem? (i := 28) (by decide +kernel)) rfl⟩
theorem wlX6_339 : Cond.methodLink RX6 339 yX5_bitsOutOfTrays ∈ xWd := xWd_in (List.mem_of_getElem? (i := 757) (by decide +kernel)) rfl
theorem mdX5_bitsOutOfTrays : xMd yX5_bitsOutOfTrays cX5_bitsOutOfTrays 1 (some .int) 0 := ⟨by decide +kernel, xWd_in (List.mem_of_getElem? (i := 760) (by decide +kernel)) rfl, xWd_in (List.mem_of_getElem? (i := 92) (by decide +kernel)) rfl, by decide +kernel, by decide⟩
theorem miX5_bitsOutOfTrays : Cond.instanceMethod yX5_bitsOutOfTrays ∈ xWd ∧ Cond.selects yX5_bitsOutOfTrays.cls yX5_bitsOutOfTrays yX5_bitsOutOfTrays ∈ xWd := ⟨xWd_in (List.mem_of_getElem? (i := 758) (by decide +kernel)) rfl, xWd_in (List.mem_of_getElem? (i := 759) (by decide +kernel)) rfl⟩
theorem wlX6_342 : Cond.methodLink RX6 342 yX5_weightOf ∈ xWd := xWd_in (List.mem_of_getElem? (i := 761) (by decide +kernel)) rfl
theorem mdX5_weightOf : xMd yX5_weightOf cX5_weightOf 4 (some .int) 1 := ⟨by decide +kernel, xWd_in (List.mem_of_getElem? (i := 764) (by decide +kernel)) rfl, xWd_in (List.mem_of_getElem? (i := 92) (by decide +kernel)) rfl, by decide +kernel, by decide⟩
theorem miX5_weightOf : Cond.instanceMethod yX5_weightOf ∈ xWd ∧ Cond.selects yX5_weightOf.cls yX5_weightOf yX5_weightOf ∈ xWd := ⟨xWd_in (List.mem_of_getElem? (i := 762) (by decide +kernel)) rfl, xWd_in (List.mem_of_getElem? (i := 763) (by decide +kernel)) rfl⟩
theorem wlL_114 : Cond.methodLink RL 114 yX6_share ∈ xWd := xWd_in (List.mem_of_getElem? (i := 765) (by decide +kernel)) rfl
theorem mdX6_share : xMd yX6_share cX6_share 3 (some .int) 2 := ⟨by decide +kernel, xWd_in (List.mem_of_getElem? (i := 768) (by decide +kernel)) rfl, xWd_in (List.mem_of_getElem? (i := 88) (by decide +kernel)) rfl, by decide +kernel, by decide⟩
theorem miX6_share : Cond.instanceMethod yX6_share ∈ xWd ∧ Cond.selects yX6_share.cls yX6_share yX6_share ∈ xWd := ⟨xWd_in (List.mem_of_getElem? (i := 766) (by decide +kernel)) rfl, xWd_in (List.mem_of_getElem? (i := 767) (by decide +kernel)) rfl⟩
theorem wlX6_260 : Cond.methodLink RX6 260 yX6_shareOf ∈ xWd := xWd_in (List.mem_of_getElem? (i := 769) (by decide +kernel)) rfl
theorem mdX6_shareOf : xMd yX6_shareOf cX6_shareOf 7 (some .int) 2 := ⟨by decide +kernel, xWd_in (List.mem_of_getElem? (i := 772) (by decide +kernel)) rfl, xWd_in (List.mem_of_getElem? (i := 88) (by decide +kernel)) rfl, by decide +kernel, by decide⟩
theorem miX6_shareOf : Cond.instanceMethod yX6_shareOf ∈ xWd ∧ Cond.selects yX6_shareOf.cls yX6_shareOf yX6_shareOf ∈ xWd := ⟨xWd_in (List.mem_of_getElem? (i := 771) (by decide +kernel)) rfl, xWd_in (List.mem_of_getElem? (i := 29) (by decide +kernel)) rfl⟩
theorem wlX6_335 : Cond.methodLink RX6 335 yX5_wentOfAll ∈ xWd := xWd_in (List.mem_of_getElem? (i := 773) (by decide +kernel)) rfl
theorem mdX5_wentOfAll : xMd yX5_wentOfAll cX5_wentOfAll 3 (some .int) 0 := ⟨by decide +kernel, xWd_in (List.mem_of_getElem? (i := 776) (by decide +kernel)) rfl, xWd_in (List.mem_of_getElem? (i := 92) (by decide +kernel)) rfl, by decide +kernel, by decide⟩
theorem miX5_wentOfAll : Cond.instanceMethod yX5_wentOfAll ∈ xWd ∧ Cond.selects yX5_wentOfAll.cls yX5_wentOfAll yX5_wentOfAll ∈ xWd := ⟨xWd_in (List.mem_of_getElem? (i := 774) (by decide +kernel)) rfl, xWd_in (List.mem_of_getElem? (i := 775) (by decide +kernel)) rfl⟩
theorem wlL_118 : Cond.methodLink RL 118 yX6_byTurns ∈ xWd := xWd_in (List.mem_of_getElem? (i := 777) (by decide +kernel)) rfl
theorem mdX6_byTurns : xMd yX6_byTurns cX6_byTurns 3 (some .int) 2 := ⟨by decide +kernel, xWd_in (List.mem_of_getElem? (i := 780) (by decide +kernel)) rfl, xWd_in (List.mem_of_getElem? (i := 88) (by decide +kernel)) rfl, by decide +kernel, by decide⟩
theorem miX6_byTurns : Cond.instanceMethod yX6_byTurns ∈ xWd ∧ Cond.selects yX6_byTurns.cls yX6_byTurns yX6_byTurns ∈ xWd := ⟨xWd_in (List.mem_of_getElem? (i := 778) (by decide +kernel)) rfl, xWd_in (List.mem_of_getElem? (i := 779) (by decide +kernel)) rfl⟩
theorem wlX6_263 : Cond.methodLink RX6 263 yX3_playTurns ∈ xWd := xWd_in (List.mem_of_getElem? (i := 781) (by decide +kernel)) rfl
theorem mdX3_playTurns : xMd yX3_playTurns cX3_playTurns 6 (some .int) 3 := ⟨by decide +kernel, xWd_in (List.mem_of_getElem? (i := 784) (by decide +kernel)) rfl, xWd_in (List.mem_of_getElem? (i := 94) (by decide +kernel)) rfl, by decide +kernel, by decide⟩
theorem miX3_playTurns : Cond.instanceMethod yX3_playTurns ∈ xWd ∧ Cond.selects yX3_playTurns.cls yX3_playTurns yX3_playTurns ∈ xWd := ⟨xWd_in (List.mem_of_getElem? (i := 782) (by decide +kernel)) rfl, xWd_in (List.mem_of_getElem? (i := 783) (by decide +kernel)) rfl⟩
theorem wlX3_134 : Cond.methodLink RX3 134 yX3_weighSets ∈ xWd := xWd_in (List.mem_of_getElem? (i := 785) (by decide +kernel)) rfl
theorem mdX3_weighSets : xMd yX3_weighSets cX3_weighSets 7 none 4 := ⟨by decide +kernel, xWd_in (List.mem_of_getElem? (i := 788) (by decide +kernel)) rfl, xWd_in (List.mem_of_getElem? (i := 94) (by decide +kernel)) rfl, by decide +kernel, by decide⟩
theorem miX3_weighSets : Cond.instanceMethod yX3_weighSets ∈ xWd ∧ Cond.selects yX3_weighSets.cls yX3_weighSets yX3_weighSets ∈ xWd := ⟨xWd_in (List.mem_of_getElem? (i := 787) (by decide +kernel)) rfl, xWd_in (List.mem_of_getElem? (i := 30) (by decide +kernel)) rfl⟩
theorem wlX3_138 : Cond.methodLink RX3 138 yX3_playTurn ∈ xWd := xWd_in (List.mem_of_getElem? (i := 789) (by decide +kernel)) rfl
theorem mdX3_playTurn : xMd yX3_playTurn cX3_playTurn 9 none 3 := ⟨by decide +kernel, xWd_in (List.mem_of_getElem? (i := 792) (by decide +kernel)) rfl, xWd_in (List.mem_of_getElem? (i := 94) (by decide +kernel)) rfl, by decide +kernel, by decide⟩
theorem miX3_playTurn : Cond.instanceMethod yX3_playTurn ∈ xWd ∧ Cond.selects yX3_playTurn.cls yX3_playTurn yX3_playTurn ∈ xWd := ⟨xWd_in (List.mem_of_getElem? (i := 791) (by decide +kernel)) rfl, xWd_in (List.mem_of_getElem? (i := 31) (by decide +kernel)) rfl⟩
theorem wlX3_142 : Cond.methodLink RX3 142 yJ9_max_7cf53 ∈ xWd := xWd_in (List.mem_of_getElem? (i := 793) (by decide +kernel)) rfl
theorem mcJ9_max_7cf53 : Cond.code yJ9_max_7cf53 cJ9_max_7cf53 2 (some .int) ∈ xWd := xWd_in (List.mem_of_getElem? (i := 795) (by decide +kernel)) rfl
theorem msJ9_max_7cf53 : Cond.static yJ9_max_7cf53 ∈ xWd := xWd_in (List.mem_of_getElem? (i := 794) (by decide +kernel)) rfl
theorem wlX3_148 : Cond.methodLink RX3 148 yJ9_min_7cf53 ∈ xWd := xWd_in (List.mem_of_getElem? (i := 796) (by decide +kernel)) rfl
theorem wlL_122 : Cond.methodLink RL 122 yX6_who ∈ xWd := xWd_in (List.mem_of_getElem? (i := 797) (by decide +kernel)) rfl
theorem mdX6_who : xMd yX6_who cX6_who 7 (some .int) 5 := ⟨by decide +kernel, xWd_in (List.mem_of_getElem? (i := 800) (by decide +kernel)) rfl, xWd_in (List.mem_of_getElem? (i := 88) (by decide +kernel)) rfl, by decide +kernel, by decide⟩
theorem miX6_who : Cond.instanceMethod yX6_who ∈ xWd ∧ Cond.selects yX6_who.cls yX6_who yX6_who ∈ xWd := ⟨xWd_in (List.mem_of_getElem? (i := 798) (by decide +kernel)) rfl, xWd_in (List.mem_of_getElem? (i := 799) (by decide +kernel)) rfl⟩
theorem wlX6_266 : Cond.methodLink RX6 266 yX2_itemsOf ∈ xWd := xWd_in (List.mem_of_getElem? (i := 801) (by decide +kernel)) rfl
theorem mdX2_itemsOf : xMd yX2_itemsOf cX2_itemsOf 2 (some (.array .int)) 1 := ⟨by decide +kernel, xWd_in (List.mem_of_getElem? (i := 804) (by decide +kernel)) rfl, xWd_in (List.mem_of_getElem? (i := 89) (by decide +kernel)) rfl, by decide +kernel, by decide⟩
theorem miX2_itemsOf : Cond.instanceMethod yX2_itemsOf ∈ xWd ∧ Cond.selects yX2_itemsOf.cls yX2_itemsOf yX2_itemsOf ∈ xWd := ⟨xWd_in (List.mem_of_getElem? (i := 802) (by decide +kernel)) rfl, xWd_in (List.mem_of_getElem? (i := 803) (by decide +kernel)) rfl⟩
theorem wlX6_270 : Cond.methodLink RX6 270 yX3_watch ∈ xWd := xWd_in (List.mem_of_getElem? (i := 805) (by decide +kernel)) rfl
theorem mdX3_watch : xMd yX3_watch cX3_watch 4 none 3 := ⟨by decide +kernel, xWd_in (List.mem_of_getElem? (i := 808) (by decide +kernel)) rfl, xWd_in (List.mem_of_getElem? (i := 94) (by decide +kernel)) rfl, by decide +kernel, by decide⟩
theorem miX3_watch : Cond.instanceMethod yX3_watch ∈ xWd ∧ Cond.selects yX3_watch.cls yX3_watch yX3_watch ∈ xWd := ⟨xWd_in (List.mem_of_getElem? (i := 806) (by decide +kernel)) rfl, xWd_in (List.mem_of_getElem? (i := 807) (by decide +kernel)) rfl⟩
theorem wlX6_274 : Cond.methodLink RX6 274 yX3_kindsThatFit ∈ xWd := xWd_in (List.mem_of_getElem? (i := 809) (by decide +kernel)) rfl
theorem mdX3_kindsThatFit : xMd yX3_kindsThatFit cX3_kindsThatFit 5 (some .int) 2 := ⟨by decide +kernel, xWd_in (List.mem_of_getElem? (i := 812) (by decide +kernel)) rfl, xWd_in (List.mem_of_getElem? (i := 94) (by decide +kernel)) rfl, by decide +kernel, by decide⟩
theorem miX3_kindsThatFit : Cond.instanceMethod yX3_kindsThatFit ∈ xWd ∧ Cond.selects yX3_kindsThatFit.cls yX3_kindsThatFit yX3_kindsThatFit ∈ xWd := ⟨xWd_in (List.mem_of_getElem? (i := 810) (by decide +kernel)) rfl, xWd_in (List.mem_of_getElem? (i := 811) (by decide +kernel)) rfl⟩
theorem wlX3_157 : Cond.methodLink RX3 157 yX3_bitIfFit ∈ xWd := xWd_in (List.mem_of_getElem? (i := 813) (by decide +kernel)) rfl
theorem mdX3_bitIfFit : xMd yX3_bitIfFit cX3_bitIfFit 2 (some .int) 1 := ⟨by decide +kernel, xWd_in (List.mem_of_getElem? (i := 816) (by decide +kernel)) rfl, xWd_in (List.mem_of_getElem? (i := 94) (by decide +kernel)) rfl, by decide +kernel, by decide⟩
theorem miX3_bitIfFit : Cond.instanceMethod yX3_bitIfFit ∈ xWd ∧ Cond.selects yX3_bitIfFit.cls yX3_bitIfFit yX3_bitIfFit ∈ xWd := ⟨xWd_in (List.mem_of_getElem? (i := 815) (by decide +kernel)) rfl, xWd_in (List.mem_of_getElem? (i := 32) (by decide +kernel)) rfl⟩
theorem wlX3_151 : Cond.methodLink RX3 151 yX3_fits ∈ xWd := xWd_in (List.mem_of_getElem? (i := 817) (by decide +kernel)) rfl
theorem mdX3_fits : xMd yX3_fits cX3_fits 2 (some .boolean) 0 := ⟨by decide +kernel, xWd_in (List.mem_of_getElem? (i := 820) (by decide +kernel)) rfl, xWd_in (List.mem_of_getElem? (i := 94) (by decide +kernel)) rfl, by decide +kernel, by decide⟩
theorem miX3_fits : Cond.instanceMethod yX3_fits ∈ xWd ∧ Cond.selects yX3_fits.cls yX3_fits yX3_fits ∈ xWd := ⟨xWd_in (List.mem_of_getElem? (i := 819) (by decide +kernel)) rfl, xWd_in (List.mem_of_getElem? (i := 33) (by decide +kernel)) rfl⟩
theorem wlX6_277 : Cond.methodLink RX6 277 yX3_pointsThatFit ∈ xWd := xWd_in (List.mem_of_getElem? (i := 821) (by decide +kernel)) rfl
theorem mdX3_pointsThatFit : xMd yX3_pointsThatFit cX3_pointsThatFit 5 (some .int) 2 := ⟨by decide +kernel, xWd_in (List.mem_of_getElem? (i := 824) (by decide +kernel)) rfl, xWd_in (List.mem_of_getElem? (i := 94) (by decide +kernel)) rfl, by decide +kernel, by decide⟩
theorem miX3_pointsThatFit : Cond.instanceMethod yX3_pointsThatFit ∈ xWd ∧ Cond.selects yX3_pointsThatFit.cls yX3_pointsThatFit yX3_pointsThatFit ∈ xWd := ⟨xWd_in (List.mem_of_getElem? (i := 822) (by decide +kernel)) rfl, xWd_in (List.mem_of_getElem? (i := 823) (by decide +kernel)) rfl⟩
theorem wlL_126 : Cond.methodLink RL 126 yX6_weights ∈ xWd := xWd_in (List.mem_of_getElem? (i := 825) (by decide +kernel)) rfl
theorem mdX6_weights : xMd yX6_weights cX6_weights 7 (some .int) 5 := ⟨by decide +kernel, xWd_in (List.mem_of_getElem? (i := 828) (by decide +kernel)) rfl, xWd_in (List.mem_of_getElem? (i := 88) (by decide +kernel)) rfl, by decide +kernel, by decide⟩
theorem miX6_weights : Cond.instanceMethod yX6_weights ∈ xWd ∧ Cond.selects yX6_weights.cls yX6_weights yX6_weights ∈ xWd := ⟨xWd_in (List.mem_of_getElem? (i := 826) (by decide +kernel)) rfl, xWd_in (List.mem_of_getElem? (i := 827) (by decide +kernel)) rfl⟩
theorem wlX6_280 : Cond.methodLink RX6 280 yX3_weightsThatFit ∈ xWd := xWd_in (List.mem_of_getElem? (i := 829) (by decide +kernel)) rfl
theorem mdX3_weightsThatFit : xMd yX3_weightsThatFit cX3_weightsThatFit 5 (some .int) 2 := ⟨by decide +kernel, xWd_in (List.mem_of_getElem? (i := 832) (by decide +kernel)) rfl, xWd_in (List.mem_of_getElem? (i := 94) (by decide +kernel)) rfl, by decide +kernel, by decide⟩
theorem miX3_weightsThatFit : Cond.instanceMethod yX3_weightsThatFit ∈ xWd ∧ Cond.selects yX3_weightsThatFit.cls yX3_weightsThatFit yX3_weightsThatFit ∈ xWd := ⟨xWd_in (List.mem_of_getElem? (i := 830) (by decide +kernel)) rfl, xWd_in (List.mem_of_getElem? (i := 831) (by decide +kernel)) rfl⟩
theorem wlX6_283 : Cond.methodLink RX6 283 yX3_barsThatFit ∈ xWd := xWd_in (List.mem_of_getElem? (i := 833) (by decide +kernel)) rfl
theorem mdX3_barsThatFit : xMd yX3_barsThatFit cX3_barsThatFit 4 (some .int) 1 := ⟨by decide +kernel, xWd_in (List.mem_of_getElem? (i := 836) (by decide +kernel)) rfl, xWd_in (List.mem_of_getElem? (i := 94) (by decide +kernel)) rfl, by decide +kernel, by decide⟩
theorem miX3_barsThatFit : Cond.instanceMethod yX3_barsThatFit ∈ xWd ∧ Cond.selects yX3_barsThatFit.cls yX3_barsThatFit yX3_barsThatFit ∈ xWd := ⟨xWd_in (List.mem_of_getElem? (i := 834) (by decide +kernel)) rfl, xWd_in (List.mem_of_getElem? (i := 835) (by decide +kernel)) rfl⟩
theorem wlL_130 : Cond.methodLink RL 130 yX6_jam ∈ xWd := xWd_in (List.mem_of_getElem? (i := 837) (by decide +kernel)) rfl
theorem mdX6_jam : xMd yX6_jam cX6_jam 11 (some .long) 4 := ⟨by decide +kernel, xWd_in (List.mem_of_getElem? (i := 840) (by decide +kernel)) rfl, xWd_in (List.mem_of_getElem? (i := 88) (by decide +kernel)) rfl, by decide +kernel, by decide⟩
theorem miX6_jam : Cond.instanceMethod yX6_jam ∈ xWd ∧ Cond.selects yX6_jam.cls yX6_jam yX6_jam ∈ xWd := ⟨xWd_in (List.mem_of_getElem? (i := 838) (by decide +kernel)) rfl, xWd_in (List.mem_of_getElem? (i := 839) (by decide +kernel)) rfl⟩
theorem wjX6_287 : Cond.constantLong RX6 287 (-1000001) ∈ xWd := xWd_in (List.mem_of_getElem? (i := 841) (by decide +kernel)) rfl
theorem wlX6_289 : Cond.methodLink RX6 289 yX3_jamCases ∈ xWd := xWd_in (List.mem_of_getElem? (i := 842) (by decide +kernel)) rfl
theorem mdX3_jamCases : xMd yX3_jamCases cX3_jamCases 11 (some .long) 4 := ⟨by decide +kernel, xWd_in (List.mem_of_getElem? (i := 845) (by decide +kernel)) rfl, xWd_in (List.mem_of_getElem? (i := 94) (by decide +kernel)) rfl, by decide +kernel, by decide⟩
theorem miX3_jamCases : Cond.instanceMethod yX3_jamCases ∈ xWd ∧ Cond.selects yX3_jamCases.cls yX3_jamCases yX3_jamCases ∈ xWd := ⟨xWd_in (List.mem_of_getElem? (i := 843) (by decide +kernel)) rfl, xWd_in (List.mem_of_getElem? (i := 844) (by decide +kernel)) rfl⟩
theorem wnX3_163 : Cond.methodLinkNest RX3 163 yX6_power "MarbleRun" ∈ xNest := List.mem_filter.mpr ⟨List.mem_of_getElem? (i := 846) (by decide +kernel), rfl⟩
theorem mdX6_power : xMd yX6_power cX6_power 6 (some .long) 2 := ⟨by decide +kernel, xWd_in (List.mem_of_getElem? (i := 848) (by decide +kernel)) rfl, xWd_in (List.mem_of_getElem? (i := 88) (by decide +kernel)) rfl, by decide +kernel, by decide⟩
theorem msX6_power : Cond.static yX6_power ∈ xWd := xWd_in (List.mem_of_getElem? (i := 847) (by decide +kernel)) rfl
theorem wjX6_293 : Cond.constantLong RX6 293 10 ∈ xWd := xWd_in (List.mem_of_getElem? (i := 849) (by decide +kernel)) rfl
theorem wlX6_295 : Cond.methodLink RX6 295 yX6_power ∈ xWd := xWd_in (List.mem_of_getElem? (i := 850) (by decide +kernel)) rfl
theorem wlX6_299 : Cond.methodLink RX6 299 yX6_commonDivisor ∈ xWd := xWd_in (List.mem_of_getElem? (i := 851) (by decide +kernel)) rfl
theorem mdX6_commonDivisor : xMd yX6_commonDivisor cX6_commonDivisor 11 (some .long) 2 := ⟨by decide +kernel, xWd_in (List.mem_of_getElem? (i := 853) (by decide +kernel)) rfl, xWd_in (List.mem_of_getElem? (i := 88) (by decide +kernel)) rfl, by decide +kernel, by decide⟩
theorem msX6_commonDivisor : Cond.static yX6_commonDivisor ∈ xWd := xWd_in (List.mem_of_getElem? (i := 852) (by decide +kernel)) rfl
theorem wlL_135 : Cond.methodLink RL 135 yX6_drawn ∈ xWd := xWd_in (List.mem_of_getElem? (i := 854) (by decide +kernel)) rfl
theorem mdX6_drawn : xMd yX6_drawn cX6_drawn 4 (some .int) 3 := ⟨by decide +kernel, xWd_in (List.mem_of_getElem? (i := 857) (by decide +kernel)) rfl, xWd_in (List.mem_of_getElem? (i := 88) (by decide +kernel)) rfl, by decide +kernel, by decide⟩
theorem miX6_drawn : Cond.instanceMethod yX6_drawn ∈ xWd ∧ Cond.selects yX6_drawn.cls yX6_drawn yX6_drawn ∈ xWd := ⟨xWd_in (List.mem_of_getElem? (i := 855) (by decide +kernel)) rfl, xWd_in (List.mem_of_getElem? (i := 856) (by decide +kernel)) rfl⟩
theorem wkX6_303 : Cond.constant RX6 303 999999 ∈ xWd := xWd_in (List.mem_of_getElem? (i := 858) (by decide +kernel)) rfl
theorem wlX6_304 : Cond.methodLink RX6 304 yX3_cameByDraws ∈ xWd := xWd_in (List.mem_of_getElem? (i := 859) (by decide +kernel)) rfl
theorem mdX3_cameByDraws : xMd yX3_cameByDraws cX3_cameByDraws 10 (some .int) 4 := ⟨by decide +kernel, xWd_in (List.mem_of_getElem? (i := 862) (by decide +kernel)) rfl, xWd_in (List.mem_of_getElem? (i := 94) (by decide +kernel)) rfl, by decide +kernel, by decide⟩
theorem miX3_cameByDraws : Cond.instanceMethod yX3_cameByDraws ∈ xWd ∧ Cond.selects yX3_cameByDraws.cls yX3_cameByDraws yX3_cameByDraws ∈ xWd := ⟨xWd_in (List.mem_of_getElem? (i := 860) (by decide +kernel)) rfl, xWd_in (List.mem_of_getElem? (i := 861) (by decide +kernel)) rfl⟩
theorem wjX3_173 : Cond.constantLong RX3 173 16807 ∈ xWd := xWd_in (List.mem_of_getElem? (i := 863) (by decide +kernel)) rfl
theorem wjX3_175 : Cond.constantLong RX3 175 2147483647 ∈ xWd := xWd_in (List.mem_of_getElem? (i := 864) (by decide +kernel)) rfl
theorem wlX3_177 : Cond.methodLink RX3 177 yX3_disturb ∈ xWd := xWd_in (List.mem_of_getElem? (i := 865) (by decide +kernel)) rfl
theorem mdX3_disturb : xMd yX3_disturb cX3_disturb 3 none 1 := ⟨by decide +kernel, xWd_in (List.mem_of_getElem? (i := 868) (by decide +kernel)) rfl, xWd_in (List.mem_of_getElem? (i := 94) (by decide +kernel)) rfl, by decide +kernel, by decide⟩
theorem miX3_disturb : Cond.instanceMethod yX3_disturb ∈ xWd ∧ Cond.selects yX3_disturb.cls yX3_disturb yX3_disturb ∈ xWd := ⟨xWd_in (List.mem_of_getElem? (i := 867) (by decide +kernel)) rfl, xWd_in (List.mem_of_getElem? (i := 34) (by decide +kernel)) rfl⟩
theorem wlX3_180 : Cond.methodLink RX3 180 yX5_throwAnew ∈ xWd := xWd_in (List.mem_of_getElem? (i := 869) (by decide +kernel)) rfl
theorem wlX3_183 : Cond.methodLink RX3 183 yX5_swing ∈ xWd := xWd_in (List.mem_of_getElem? (i := 870) (by decide +kernel)) rfl
theorem wlL_139 : Cond.methodLink RL 139 yX6_image ∈ xWd := xWd_in (List.mem_of_getElem? (i := 871) (by decide +kernel)) rfl
theorem mdX6_image : xMd yX6_image cX6_image 2 (some .int) 1 := ⟨by decide +kernel, xWd_in (List.mem_of_getElem? (i := 874) (by decide +kernel)) rfl, xWd_in (List.mem_of_getElem? (i := 88) (by decide +kernel)) rfl, by decide +kernel, by decide⟩
theorem miX6_image : Cond.instanceMethod yX6_image ∈ xWd ∧ Cond.selects yX6_image.cls yX6_image yX6_image ∈ xWd := ⟨xWd_in (List.mem_of_getElem? (i := 872) (by decide +kernel)) rfl, xWd_in (List.mem_of_getElem? (i := 873) (by decide +kernel)) rfl⟩
theorem wlL_143 : Cond.methodLink RL 143 yX6_restore ∈ xWd := xWd_in (List.mem_of_getElem? (i := 875) (by decide +kernel)) rfl
theorem mdX6_restore : xMd yX6_restore cX6_restore 2 (some .int) 1 := ⟨by decide +kernel, xWd_in (List.mem_of_getElem? (i := 878) (by decide +kernel)) rfl, xWd_in (List.mem_of_getElem? (i := 88) (by decide +kernel)) rfl, by decide +kernel, by decide⟩
theorem miX6_restore : Cond.instanceMethod yX6_restore ∈ xWd ∧ Cond.selects yX6_restore.cls yX6_restore yX6_restore ∈ xWd := ⟨xWd_in (List.mem_of_getElem? (i := 876) (by decide +kernel)) rfl, xWd_in (List.mem_of_getElem? (i := 877) (by decide +kernel)) rfl⟩
theorem wlL_147 : Cond.methodLink RL 147 yX6_kind ∈ xWd := xWd_in (List.mem_of_getElem? (i := 879) (by decide +kernel)) rfl
theorem mdX6_kind : xMd yX6_kind cX6_kind 2 (some .int) 1 := ⟨by decide +kernel, xWd_in (List.mem_of_getElem? (i := 882) (by decide +kernel)) rfl, xWd_in (List.mem_of_getElem? (i := 88) (by decide +kernel)) rfl, by decide +kernel, by decide⟩
theorem miX6_kind : Cond.instanceMethod yX6_kind ∈ xWd ∧ Cond.selects yX6_kind.cls yX6_kind yX6_kind ∈ xWd := ⟨xWd_in (List.mem_of_getElem? (i := 880) (by decide +kernel)) rfl, xWd_in (List.mem_of_getElem? (i := 881) (by decide +kernel)) rfl⟩
theorem wlL_151 : Cond.methodLink RL 151 yX6_as ∈ xWd := xWd_in (List.mem_of_getElem? (i := 883) (by decide +kernel)) rfl
theorem mdX6_as : xMd yX6_as cX6_as 3 (some .int) 2 := ⟨by decide +kernel, xWd_in (List.mem_of_getElem? (i := 886) (by decide +kernel)) rfl, xWd_in (List.mem_of_getElem? (i := 88) (by decide +kernel)) rfl, by decide +kernel, by decide⟩
theorem miX6_as : Cond.instanceMethod yX6_as ∈ xWd ∧ Cond.selects yX6_as.cls yX6_as yX6_as ∈ xWd := ⟨xWd_in (List.mem_of_getElem? (i := 884) (by decide +kernel)) rfl, xWd_in (List.mem_of_getElem? (i := 885) (by decide +kernel)) rfl⟩
theorem wlX6_311 : Cond.methodLink RX6 311 yX1_isOfKind ∈ xWd := xWd_in (List.mem_of_getElem? (i := 887) (by decide +kernel)) rfl
theorem mdX1_isOfKind : xMd yX1_isOfKind cX1_isOfKind 4 (some .boolean) 2 := ⟨by decide +kernel, xWd_in (List.mem_of_getElem? (i := 889) (by decide +kernel)) rfl, xWd_in (List.mem_of_getElem? (i := 95) (by decide +kernel)) rfl, by decide +kernel, by decide⟩
theorem msX1_isOfKind : Cond.static yX1_isOfKind ∈ xWd := xWd_in (List.mem_of_getElem? (i := 888) (by decide +kernel)) rfl
theorem wfX1_19 : Cond.fieldLink RX1 19 "MarbleRun$Asker" "PARENTS" "[I" ∈ xWd := xWd_in (List.mem_of_getElem? (i := 890) (by decide +kernel)) rfl
theorem wlL_155 : Cond.methodLink RL 155 yX6_ask ∈ xWd := xWd_in (List.mem_of_getElem? (i := 892) (by decide +kernel)) rfl
theorem mdX6_ask : xMd yX6_ask cX6_ask 3 (some .int) 2 := ⟨by decide +kernel, xWd_in (List.mem_of_getElem? (i := 895) (by decide +kernel)) rfl, xWd_in (List.mem_of_getElem? (i := 88) (by decide +kernel)) rfl, by decide +kernel, by decide⟩
theorem miX6_ask : Cond.instanceMethod yX6_ask ∈ xWd ∧ Cond.selects yX6_ask.cls yX6_ask yX6_ask ∈ xWd := ⟨xWd_in (List.mem_of_getElem? (i := 893) (by decide +kernel)) rfl, xWd_in (List.mem_of_getElem? (i := 894) (by decide +kernel)) rfl⟩
theorem wlX6_315 : Cond.methodLink RX6 315 yX1_emptyTrace ∈ xWd := xWd_in (List.mem_of_getElem? (i := 896) (by decide +kernel)) rfl
theorem mdX1_emptyTrace : xMd yX1_emptyTrace cX1_emptyTrace 1 none 0 := ⟨by decide +kernel, xWd_in (List.mem_of_getElem? (i := 899) (by decide +kernel)) rfl, xWd_in (List.mem_of_getElem? (i := 95) (by decide +kernel)) rfl, by decide +kernel, by decide⟩
theorem miX1_emptyTrace : Cond.instanceMethod yX1_emptyTrace ∈ xWd ∧ Cond.selects yX1_emptyTrace.cls yX1_emptyTrace yX1_emptyTrace ∈ xWd := ⟨xWd_in (List.mem_of_getElem? (i := 897) (by decide +kernel)) rfl, xWd_in (List.mem_of_getElem? (i := 898) (by decide +kernel)) rfl⟩
theorem wlX6_318 : Cond.methodLink RX6 318 yX1_size ∈ xWd := xWd_in (List.mem_of_getElem? (i := 900) (by decide +kernel)) rfl
theorem mdX1_size : xMd yX1_size cX1_size 3 (some .int) 2 := ⟨by decide +kernel, xWd_in (List.mem_of_getElem? (i := 903) (by decide +kernel)) rfl, xWd_in (List.mem_of_getElem? (i := 95) (by decide +kernel)) rfl, by decide +kernel, by decide⟩
theorem miX1_size : Cond.instanceMethod yX1_size ∈ xWd ∧ Cond.selects yX1_size.cls yX1_size yX1_size ∈ xWd := ⟨xWd_in (List.mem_of_getElem? (i := 901) (by decide +kernel)) rfl, xWd_in (List.mem_of_getElem? (i := 902) (by decide +kernel)) rfl⟩
theorem wlX1_28 : Cond.methodLink RX1 28 yX1_body11 ∈ xWd := xWd_in (List.mem_of_getElem? (i := 904) (by decide +kernel)) rfl
theorem mdX1_body11 : xMd yX1_body11 cX1_body11 3 (some .int) 2 := ⟨by decide +kernel, xWd_in (List.mem_of_getElem? (i := 907) (by decide +kernel)) rfl, xWd_in (List.mem_of_getElem? (i := 95) (by decide +kernel)) rfl, by decide +kernel, by decide⟩
theorem miX1_body11 : Cond.instanceMethod yX1_body11 ∈ xWd ∧ Cond.selects yX1_body11.cls yX1_body11 yX1_body11 ∈ xWd := ⟨xWd_in (List.mem_of_getElem? (i := 906) (by decide +kernel)) rfl, xWd_in (List.mem_of_getElem? (i := 35) (by decide +kernel)) rfl⟩
theorem wlX1_59 : Cond.methodLink RX1 59 yX1_begin ∈ xWd := xWd_in (List.mem_of_getElem? (i := 908) (by decide +kernel)) rfl
theorem mdX1_begin : xMd yX1_begin cX1_begin 2 none 1 := ⟨by decide +kernel, xWd_in (List.mem_of_getElem? (i := 911) (by decide +kernel)) rfl, xWd_in (List.mem_of_getElem? (i := 95) (by decide +kernel)) rfl, by decide +kernel, by decide⟩
theorem miX1_begin : Cond.instanceMethod yX1_begin ∈ xWd ∧ Cond.selects yX1_begin.cls yX1_begin yX1_begin ∈ xWd := ⟨xWd_in (List.mem_of_getElem? (i := 910) (by decide +kernel)) rfl, xWd_in (List.mem_of_getElem? (i := 36) (by decide +kernel)) rfl⟩
theorem wlX1_41 : Cond.methodLink RX1 41 yX1_body10 ∈ xWd := xWd_in (List.mem_of_getElem? (i := 912) (by decide +kernel)) rfl
theorem mdX1_body10 : xMd yX1_body10 cX1_body10 3 (some .int) 2 := ⟨by decide +kernel, xWd_in (List.mem_of_getElem? (i := 915) (by decide +kernel)) rfl, xWd_in (List.mem_of_getElem? (i := 95) (by decide +kernel)) rfl, by decide +kernel, by decide⟩
theorem miX1_body10 : Cond.instanceMethod yX1_body10 ∈ xWd ∧ Cond.selects yX1_body10.cls yX1_body10 yX1_body10 ∈ xWd := ⟨xWd_in (List.mem_of_getElem? (i := 914) (by decide +kernel)) rfl, xWd_in (List.mem_of_getElem? (i := 37) (by decide +kernel)) rfl⟩
theorem wlX1_66 : Cond.methodLink RX1 66 yX1_mark ∈ xWd := xWd_in (List.mem_of_getElem? (i := 916) (by decide +kernel)) rfl
theorem mdX1_mark : xMd yX1_mark cX1_mark 3 (some .int) 2 := ⟨by decide +kernel, xWd_in (List.mem_of_getElem? (i := 919) (by decide +kernel)) rfl, xWd_in (List.mem_of_getElem? (i := 95) (by decide +kernel)) rfl, by decide +kernel, by decide⟩
theorem miX1_mark : Cond.instanceMethod yX1_mark ∈ xWd ∧ Cond.selects yX1_mark.cls yX1_mark yX1_mark ∈ xWd := ⟨xWd_in (List.mem_of_getElem? (i := 917) (by decide +kernel)) rfl, xWd_in (List.mem_of_getElem? (i := 918) (by decide +kernel)) rfl⟩
theorem wlX1_44 : Cond.methodLink RX1 44 yX1_body21 ∈ xWd := xWd_in (List.mem_of_getElem? (i := 920) (by decide +kernel)) rfl
theorem mdX1_body21 : xMd yX1_body21 cX1_body21 3 (some .int) 2 := ⟨by decide +kernel, xWd_in (List.mem_of_getElem? (i := 923) (by decide +kernel)) rfl, xWd_in (List.mem_of_getElem? (i := 95) (by decide +kernel)) rfl, by decide +kernel, by decide⟩
theorem miX1_body21 : Cond.instanceMethod yX1_body21 ∈ xWd ∧ Cond.selects yX1_body21.cls yX1_body21 yX1_body21 ∈ xWd := ⟨xWd_in (List.mem_of_getElem? (i := 922) (by decide +kernel)) rfl, xWd_in (List.mem_of_getElem? (i := 38) (by decide +kernel)) rfl⟩
theorem wlX1_56 : Cond.methodLink RX1 56 yX1_body20 ∈ xWd := xWd_in (List.mem_of_getElem? (i := 924) (by decide +kernel)) rfl
theorem mdX1_body20 : xMd yX1_body20 cX1_body20 3 (some .int) 2 := ⟨by decide +kernel, xWd_in (List.mem_of_getElem? (i := 927) (by decide +kernel)) rfl, xWd_in (List.mem_of_getElem? (i := 95) (by decide +kernel)) rfl, by decide +kernel, by decide⟩
theorem miX1_body20 : Cond.instanceMethod yX1_body20 ∈ xWd ∧ Cond.selects yX1_body20.cls yX1_body20 yX1_body20 ∈ xWd := ⟨xWd_in (List.mem_of_getElem? (i := 926) (by decide +kernel)) rfl, xWd_in (List.mem_of_getElem? (i := 39) (by decide +kernel)) rfl⟩
theorem wlX1_47 : Cond.methodLink RX1 47 yX1_body24 ∈ xWd := xWd_in (List.mem_of_getElem? (i := 928) (by decide +kernel)) rfl
theorem mdX1_body24 : xMd yX1_body24 cX1_body24 3 (some .int) 2 := ⟨by decide +kernel, xWd_in (List.mem_of_getElem? (i := 931) (by decide +kernel)) rfl, xWd_in (List.mem_of_getElem? (i := 95) (by decide +kernel)) rfl, by decide +kernel, by decide⟩
theorem miX1_body24 : Cond.instanceMethod yX1_body24 ∈ xWd ∧ Cond.selects yX1_body24.cls yX1_body24 yX1_body24 ∈ xWd := ⟨xWd_in (List.mem_of_getElem? (i := 930) (by decide +kernel)) rfl, xWd_in (List.mem_of_getElem? (i := 40) (by decide +kernel)) rfl⟩
theorem wlX1_50 : Cond.methodLink RX1 50 yX1_body22 ∈ xWd := xWd_in (List.mem_of_getElem? (i := 932) (by decide +kernel)) rfl
theorem mdX1_body22 : xMd yX1_body22 cX1_body22 3 (some .int) 2 := ⟨by decide +kernel, xWd_in (List.mem_of_getElem? (i := 935) (by decide +kernel)) rfl, xWd_in (List.mem_of_getElem? (i := 95) (by decide +kernel)) rfl, by decide +kernel, by decide⟩
theorem miX1_body22 : Cond.instanceMethod yX1_body22 ∈ xWd ∧ Cond.selects yX1_body22.cls yX1_body22 yX1_body22 ∈ xWd := ⟨xWd_in (List.mem_of_getElem? (i := 934) (by decide +kernel)) rfl, xWd_in (List.mem_of_getElem? (i := 41) (by decide +kernel)) rfl⟩
theorem wlX1_53 : Cond.methodLink RX1 53 yX1_body23 ∈ xWd := xWd_in (List.mem_of_getElem? (i := 936) (by decide +kernel)) rfl
theorem mdX1_body23 : xMd yX1_body23 cX1_body23 3 (some .int) 2 := ⟨by decide +kernel, xWd_in (List.mem_of_getElem? (i := 939) (by decide +kernel)) rfl, xWd_in (List.mem_of_getElem? (i := 95) (by decide +kernel)) rfl, by decide +kernel, by decide⟩
theorem miX1_body23 : Cond.instanceMethod yX1_body23 ∈ xWd ∧ Cond.selects yX1_body23.cls yX1_body23 yX1_body23 ∈ xWd := ⟨xWd_in (List.mem_of_getElem? (i := 938) (by decide +kernel)) rfl, xWd_in (List.mem_of_getElem? (i := 42) (by decide +kernel)) rfl⟩
theorem wlX1_72 : Cond.methodLink RX1 72 yX1_size ∈ xWd := xWd_in (List.mem_of_getElem? (i := 940) (by decide +kernel)) rfl
theorem wlX1_32 : Cond.methodLink RX1 32 yX1_body12 ∈ xWd := xWd_in (List.mem_of_getElem? (i := 941) (by decide +kernel)) rfl
theorem mdX1_body12 : xMd yX1_body12 cX1_body12 3 (some .int) 2 := ⟨by decide +kernel, xWd_in (List.mem_of_getElem? (i := 944) (by decide +kernel)) rfl, xWd_in (List.mem_of_getElem? (i := 95) (by decide +kernel)) rfl, by decide +kernel, by decide⟩
theorem miX1_body12 : Cond.instanceMethod yX1_body12 ∈ xWd ∧ Cond.selects yX1_body12.cls yX1_body12 yX1_body12 ∈ xWd := ⟨xWd_in (List.mem_of_getElem? (i := 943) (by decide +kernel)) rfl, xWd_in (List.mem_of_getElem? (i := 43) (by decide +kernel)) rfl⟩
theorem wlX1_35 : Cond.methodLink RX1 35 yX1_body13 ∈ xWd := xWd_in (List.mem_of_getElem? (i := 945) (by decide +kernel)) rfl
theorem mdX1_body13 : xMd yX1_body13 cX1_body13 3 (some .int) 2 := ⟨by decide +kernel, xWd_in (List.mem_of_getElem? (i := 948) (by decide +kernel)) rfl, xWd_in (List.mem_of_getElem? (i := 95) (by decide +kernel)) rfl, by decide +kernel, by decide⟩
theorem miX1_body13 : Cond.instanceMethod yX1_body13 ∈ xWd ∧ Cond.selects yX1_body13.cls yX1_body13 yX1_body13 ∈ xWd := ⟨xWd_in (List.mem_of_getElem? (i := 947) (by decide +kernel)) rfl, xWd_in (List.mem_of_getElem? (i := 44) (by decide +kernel)) rfl⟩
theorem wlX1_38 : Cond.methodLink RX1 38 yX1_body14 ∈ xWd := xWd_in (List.mem_of_getElem? (i := 949) (by decide +kernel)) rfl
theorem mdX1_body14 : xMd yX1_body14 cX1_body14 3 (some .int) 2 := ⟨by decide +kernel, xWd_in (List.mem_of_getElem? (i := 952) (by decide +kernel)) rfl, xWd_in (List.mem_of_getElem? (i := 95) (by decide +kernel)) rfl, by decide +kernel, by decide⟩
theorem miX1_body14 : Cond.instanceMethod yX1_body14 ∈ xWd ∧ Cond.selects yX1_body14.cls yX1_body14 yX1_body14 ∈ xWd := ⟨xWd_in (List.mem_of_getElem? (i := 951) (by decide +kernel)) rfl, xWd_in (List.mem_of_getElem? (i := 45) (by decide +kernel)) rfl⟩
theorem wlX6_321 : Cond.methodLink RX6 321 yX1_mark ∈ xWd := xWd_in (List.mem_of_getElem? (i := 953) (by decide +kernel)) rfl
theorem wlL_159 : Cond.methodLink RL 159 yX6_trace ∈ xWd := xWd_in (List.mem_of_getElem? (i := 954) (by decide +kernel)) rfl
theorem mdX6_trace : xMd yX6_trace cX6_trace 2 (some .int) 1 := ⟨by decide +kernel, xWd_in (List.mem_of_getElem? (i := 957) (by decide +kernel)) rfl, xWd_in (List.mem_of_getElem? (i := 88) (by decide +kernel)) rfl, by decide +kernel, by decide⟩
theorem miX6_trace : Cond.instanceMethod yX6_trace ∈ xWd ∧ Cond.selects yX6_trace.cls yX6_trace yX6_trace ∈ xWd := ⟨xWd_in (List.mem_of_getElem? (i := 955) (by decide +kernel)) rfl, xWd_in (List.mem_of_getElem? (i := 956) (by decide +kernel)) rfl⟩
theorem wlX6_324 : Cond.methodLink RX6 324 yX1_traceAt ∈ xWd := xWd_in (List.mem_of_getElem? (i := 958) (by decide +kernel)) rfl
theorem mdX1_traceAt : xMd yX1_traceAt cX1_traceAt 2 (some .int) 1 := ⟨by decide +kernel, xWd_in (List.mem_of_getElem? (i := 961) (by decide +kernel)) rfl, xWd_in (List.mem_of_getElem? (i := 95) (by decide +kernel)) rfl, by decide +kernel, by decide⟩
theorem miX1_traceAt : Cond.instanceMethod yX1_traceAt ∈ xWd ∧ Cond.selects yX1_traceAt.cls yX1_traceAt yX1_traceAt ∈ xWd := ⟨xWd_in (List.mem_of_getElem? (i := 959) (by decide +kernel)) rfl, xWd_in (List.mem_of_getElem? (i := 960) (by decide +kernel)) rfl⟩
theorem wkX1_22 : Cond.constant RX1 22 (-1000000) ∈ xWd := xWd_in (List.mem_of_getElem? (i := 962) (by decide +kernel)) rfl
theorem wlL_163 : Cond.methodLink RL 163 yX6_count ∈ xWd := xWd_in (List.mem_of_getElem? (i := 963) (by decide +kernel)) rfl
theorem mdX6_count : xMd yX6_count cX6_count 2 (some .int) 1 := ⟨by decide +kernel, xWd_in (List.mem_of_getElem? (i := 966) (by decide +kernel)) rfl, xWd_in (List.mem_of_getElem? (i := 88) (by decide +kernel)) rfl, by decide +kernel, by decide⟩
theorem miX6_count : Cond.instanceMethod yX6_count ∈ xWd ∧ Cond.selects yX6_count.cls yX6_count yX6_count ∈ xWd := ⟨xWd_in (List.mem_of_getElem? (i := 964) (by decide +kernel)) rfl, xWd_in (List.mem_of_getElem? (i := 965) (by decide +kernel)) rfl⟩
theorem wlX6_327 : Cond.methodLink RX6 327 yX2_present ∈ xWd := xWd_in (List.mem_of_getElem? (i := 967) (by decide +kernel)) rfl
theorem mdX2_present : xMd yX2_present cX2_present 3 (some .int) 0 := ⟨by decide +kernel, xWd_in (List.mem_of_getElem? (i := 970) (by decide +kernel)) rfl, xWd_in (List.mem_of_getElem? (i := 89) (by decide +kernel)) rfl, by decide +kernel, by decide⟩
theorem miX2_present : Cond.instanceMethod yX2_present ∈ xWd ∧ Cond.selects yX2_present.cls yX2_present yX2_present ∈ xWd := ⟨xWd_in (List.mem_of_getElem? (i := 968) (by decide +kernel)) rfl, xWd_in (List.mem_of_getElem? (i := 969) (by decide +kernel)) rfl⟩
theorem wlX2_33 : Cond.methodLink RX2 33 yX2_isMissing ∈ xWd := xWd_in (List.mem_of_getElem? (i := 971) (by decide +kernel)) rfl
theorem wlX6_330 : Cond.methodLink RX6 330 yJ6_bitCount_0f7a4 ∈ xWd := xWd_in (List.mem_of_getElem? (i := 972) (by decide +kernel)) rfl
theorem wlL_167 : Cond.methodLink RL 167 yX6_status ∈ xWd := xWd_in (List.mem_of_getElem? (i := 973) (by decide +kernel)) rfl
theorem mdX6_status : xMd yX6_status cX6_status 1 (some .int) 0 := ⟨by decide +kernel, xWd_in (List.mem_of_getElem? (i := 976) (by decide +kernel)) rfl, xWd_in (List.mem_of_getElem? (i := 88) (by decide +kernel)) rfl, by decide +kernel, by decide⟩
theorem miX6_status : Cond.instanceMethod yX6_status ∈ xWd ∧ Cond.selects yX6_status.cls yX6_status yX6_status ∈ xWd := ⟨xWd_in (List.mem_of_getElem? (i := 974) (by decide +kernel)) rfl, xWd_in (List.mem_of_getElem? (i := 975) (by decide +kernel)) rfl⟩
theorem wcL_10 : Cond.classLink RL 10 "MarbleRunModel" ∈ xWd := xWd_in (List.mem_of_getElem? (i := 977) (by decide +kernel)) rfl
theorem ncL_10 : xNc RL 10 7 32 := ⟨RX7, TX7, tyX7, rfl, wcL_10, xWd_in (List.mem_of_getElem? (i := 978) (by decide +kernel)) rfl, xWd_in (List.mem_of_getElem? (i := 96) (by decide +kernel)) rfl, xinX7, tyX7_ok, ncX7⟩
theorem wlL_12 : Cond.methodLink RL 12 yX7_init ∈ xWd := xWd_in (List.mem_of_getElem? (i := 979) (by decide +kernel)) rfl
theorem mdX7_init : xMd yX7_init cX7_init 2 none 0 := ⟨by decide +kernel, xWd_in (List.mem_of_getElem? (i := 981) (by decide +kernel)) rfl, xWd_in (List.mem_of_getElem? (i := 96) (by decide +kernel)) rfl, by decide +kernel, by decide⟩
theorem miX7_init : Cond.instanceMethod yX7_init ∈ xWd ∧ yX7_init.name = "<init>" := ⟨xWd_in (List.mem_of_getElem? (i := 980) (by decide +kernel)) rfl, rfl⟩
theorem wlX7_1 : Cond.methodLink RX7 1 objectInit ∈ xWd := xWd_in (List.mem_of_getElem? (i := 982) (by decide +kernel)) rfl
theorem wlX7_62 : Cond.methodLink RX7 62 yX7_byNumbers ∈ xWd := xWd_in (List.mem_of_getElem? (i := 983) (by decide +kernel)) rfl
theorem mdX7_byNumbers : xMd yX7_byNumbers cX7_byNumbers 2 none 0 := ⟨by decide +kernel, xWd_in (List.mem_of_getElem? (i := 986) (by decide +kernel)) rfl, xWd_in (List.mem_of_getElem? (i := 96) (by decide +kernel)) rfl, by decide +kernel, by decide⟩
theorem miX7_byNumbers : Cond.instanceMethod yX7_byNumbers ∈ xWd ∧ Cond.selects yX7_byNumbers.cls yX7_byNumbers yX7_byNumbers ∈ xWd := ⟨xWd_in (List.mem_of_getElem? (i := 985) (by decide +kernel)) rfl, xWd_in (List.mem_of_getElem? (i := 46) (by decide +kernel)) rfl⟩
theorem flX7_7 : xFl0 RX7 7 7 0 true := ⟨RX7, TX7, 32, tyX7, rfl, by decide, xWd_in (List.mem_of_getElem? (i := 987) (by decide +kernel)) rfl, xinX7, tyX7_ok, nmX7, rfl⟩
theorem fwX7_7 : xFl RX7 7 7 0 true true := ⟨RX7, TX7, 32, tyX7, rfl, by decide, xWd_in (List.mem_of_getElem? (i := 987) (by decide +kernel)) rfl, xinX7, tyX7_ok, nmX7, rfl, rfl, (fun h => nomatch h), fun _ => Or.inr ⟨_, rfl⟩, fun _ => rfl⟩
theorem flX7_13 : xFl0 RX7 13 7 1 true := ⟨RX7, TX7, 32, tyX7, rfl, by decide, xWd_in (List.mem_of_getElem? (i := 988) (by decide +kernel)) rfl, xinX7, tyX7_ok, nmX7, rfl⟩
theorem fwX7_13 : xFl RX7 13 7 1 true true := ⟨RX7, TX7, 32, tyX7, rfl, by decide, xWd_in (List.mem_of_getElem? (i := 988) (by decide +kernel)) rfl, xinX7, tyX7_ok, nmX7, rfl, rfl, (fun h => nomatch h), fun _ => Or.inr ⟨_, rfl⟩, fun _ => rfl⟩
theorem flX7_16 : xFl0 RX7 16 7 2 true := ⟨RX7, TX7, 32, tyX7, rfl, by decide, xWd_in (List.mem_of_getElem? (i := 989) (by decide +kernel)) rfl, xinX7, tyX7_ok, nmX7, rfl⟩
theorem fwX7_16 : xFl RX7 16 7 2 true true := ⟨RX7, TX7, 32, tyX7, rfl, by decide, xWd_in (List.mem_of_getElem? (i := 989) (by decide +kernel)) rfl, xinX7, tyX7_ok, nmX7, rfl, rfl, (fun h => nomatch h), fun _ => Or.inr ⟨_, rfl⟩, fun _ => rfl⟩
theorem flX7_65 : xFl0 RX7 65 7 3 false := ⟨RX7, TX7, 32, tyX7, rfl, by decide, xWd_in (List.mem_of_getElem? (i := 990) (by decide +kernel)) rfl, xinX7, tyX7_ok, nmX7, rfl⟩
theorem fwX7_65 : xFl RX7 65 7 3 false false := ⟨RX7, TX7, 32, tyX7, rfl, by decide, xWd_in (List.mem_of_getElem? (i := 990) (by decide +kernel)) rfl, xinX7, tyX7_ok, nmX7, rfl, rfl, fun _ => rfl, (fun h => nomatch h), (fun h => nomatch h)⟩
theorem flX7_19 : xFl0 RX7 19 7 4 true := ⟨RX7, TX7, 32, tyX7, rfl, by decide, xWd_in (List.mem_of_getElem? (i := 991) (by decide +kernel)) rfl, xinX7, tyX7_ok, nmX7, rfl⟩
theorem fwX7_19 : xFl RX7 19 7 4 true true := ⟨RX7, TX7, 32, tyX7, rfl, by decide, xWd_in (List.mem_of_getElem? (i := 991) (by decide +kernel)) rfl, xinX7, tyX7_ok, nmX7, rfl, rfl, (fun h => nomatch h), fun _ => Or.inr ⟨_, rfl⟩, fun _ => rfl⟩
theorem flX7_96 : xFl0 RX7 96 7 5 false := ⟨RX7, TX7, 32, tyX7, rfl, by decide, xWd_in (List.mem_of_getElem? (i := 992) (by decide +kernel)) rfl, xinX7, tyX7_ok, nmX7, rfl⟩
theorem fwX7_96 : xFl RX7 96 7 5 false false := ⟨RX7, TX7, 32, tyX7, rfl, by decide, xWd_in (List.mem_of_getElem? (i := 992) (by decide +kernel)) rfl, xinX7, tyX7_ok, nmX7, rfl, rfl, fun _ => rfl, (fun h => nomatch h), (fun h => nomatch h)⟩
theorem flX7_148 : xFl0 RX7 148 7 6 false := ⟨RX7, TX7, 32, tyX7, rfl, by decide, xWd_in (List.mem_of_getElem? (i := 993) (by decide +kernel)) rfl, xinX7, tyX7_ok, nmX7, rfl⟩
theorem fwX7_148 : xFl RX7 148 7 6 false false := ⟨RX7, TX7, 32, tyX7, rfl, by decide, xWd_in (List.mem_of_getElem? (i := 993) (by decide +kernel)) rfl, xinX7, tyX7_ok, nmX7, rfl, rfl, fun _ => rfl, (fun h => nomatch h), (fun h => nomatch h)⟩
theorem flX7_152 : xFl0 RX7 152 7 7 false := ⟨RX7, TX7, 32, tyX7, rfl, by decide, xWd_in (List.mem_of_getElem? (i := 994) (by decide +kernel)) rfl, xinX7, tyX7_ok, nmX7, rfl⟩
theorem fwX7_152 : xFl RX7 152 7 7 false false := ⟨RX7, TX7, 32, tyX7, rfl, by decide, xWd_in (List.mem_of_getElem? (i := 994) (by decide +kernel)) rfl, xinX7, tyX7_ok, nmX7, rfl, rfl, fun _ => rfl, (fun h => nomatch h), (fun h => nomatch h)⟩
theorem flX7_74 : xFl0 RX7 74 7 8 false := ⟨RX7, TX7, 32, tyX7, rfl, by decide, xWd_in (List.mem_of_getElem? (i := 995) (by decide +kernel)) rfl, xinX7, tyX7_ok, nmX7, rfl⟩
theorem fwX7_74 : xFl RX7 74 7 8 false false := ⟨RX7, TX7, 32, tyX7, rfl, by decide, xWd_in (List.mem_of_getElem? (i := 995) (by decide +kernel)) rfl, xinX7, tyX7_ok, nmX7, rfl, rfl, fun _ => rfl, (fun h => nomatch h), (fun h => nomatch h)⟩
theorem flX7_77 : xFl0 RX7 77 7 9 false := ⟨RX7, TX7, 32, tyX7, rfl, by decide, xWd_in (List.mem_of_getElem? (i := 996) (by decide +kernel)) rfl, xinX7, tyX7_ok, nmX7, rfl⟩
theorem fwX7_77 : xFl RX7 77 7 9 false false := ⟨RX7, TX7, 32, tyX7, rfl, by decide, xWd_in (List.mem_of_getElem? (i := 996) (by decide +kernel)) rfl, xinX7, tyX7_ok, nmX7, rfl, rfl, fun _ => rfl, (fun h => nomatch h), (fun h => nomatch h)⟩
theorem flX7_22 : xFl0 RX7 22 7 10 true := ⟨RX7, TX7, 32, tyX7, rfl, by decide, xWd_in (List.mem_of_getElem? (i := 997) (by decide +kernel)) rfl, xinX7, tyX7_ok, nmX7, rfl⟩
theorem fwX7_22 : xFl RX7 22 7 10 true true := ⟨RX7, TX7, 32, tyX7, rfl, by decide, xWd_in (List.mem_of_getElem? (i := 997) (by decide +kernel)) rfl, xinX7, tyX7_ok, nmX7, rfl, rfl, (fun h => nomatch h), fun _ => Or.inr ⟨_, rfl⟩, fun _ => rfl⟩
theorem flX7_162 : xFl0 RX7 162 7 11 false := ⟨RX7, TX7, 32, tyX7, rfl, by decide, xWd_in (List.mem_of_getElem? (i := 998) (by decide +kernel)) rfl, xinX7, tyX7_ok, nmX7, rfl⟩
theorem fwX7_162 : xFl RX7 162 7 11 false false := ⟨RX7, TX7, 32, tyX7, rfl, by decide, xWd_in (List.mem_of_getElem? (i := 998) (by decide +kernel)) rfl, xinX7, tyX7_ok, nmX7, rfl, rfl, fun _ => rfl, (fun h => nomatch h), (fun h => nomatch h)⟩
theorem flX7_25 : xFl0 RX7 25 7 12 true := ⟨RX7, TX7, 32, tyX7, rfl, by decide, xWd_in (List.mem_of_getElem? (i := 999) (by decide +kernel)) rfl, xinX7, tyX7_ok, nmX7, rfl⟩
theorem fwX7_25 : xFl RX7 25 7 12 true true := ⟨RX7, TX7, 32, tyX7, rfl, by decide, xWd_in (List.mem_of_getElem? (i := 999) (by decide +kernel)) rfl, xinX7, tyX7_ok, nmX7, rfl, rfl, (fun h => nomatch h), fun _ => Or.inr ⟨_, rfl⟩, fun _ => rfl⟩
theorem flX7_28 : xFl0 RX7 28 7 13 true := ⟨RX7, TX7, 32, tyX7, rfl, by decide, xWd_in (List.mem_of_getElem? (i := 1000) (by decide +kernel)) rfl, xinX7, tyX7_ok, nmX7, rfl⟩
theorem fwX7_28 : xFl RX7 28 7 13 true true := ⟨RX7, TX7, 32, tyX7, rfl, by decide, xWd_in (List.mem_of_getElem? (i := 1000) (by decide +kernel)) rfl, xinX7, tyX7_ok, nmX7, rfl, rfl, (fun h => nomatch h), fun _ => Or.inr ⟨_, rfl⟩, fun _ => rfl⟩
theorem flX7_159 : xFl0 RX7 159 7 14 false := ⟨RX7, TX7, 32, tyX7, rfl, by decide, xWd_in (List.mem_of_getElem? (i := 1001) (by decide +kernel)) rfl, xinX7, tyX7_ok, nmX7, rfl⟩
theorem fwX7_159 : xFl RX7 159 7 14 false false := ⟨RX7, TX7, 32, tyX7, rfl, by decide, xWd_in (List.mem_of_getElem? (i := 1001) (by decide +kernel)) rfl, xinX7, tyX7_ok, nmX7, rfl, rfl, fun _ => rfl, (fun h => nomatch h), (fun h => nomatch h)⟩
theorem flX7_31 : xFl0 RX7 31 7 15 true := ⟨RX7, TX7, 32, tyX7, rfl, by decide, xWd_in (List.mem_of_getElem? (i := 1002) (by decide +kernel)) rfl, xinX7, tyX7_ok, nmX7, rfl⟩
theorem fwX7_31 : xFl RX7 31 7 15 true true := ⟨RX7, TX7, 32, tyX7, rfl, by decide, xWd_in (List.mem_of_getElem? (i := 1002) (by decide +kernel)) rfl, xinX7, tyX7_ok, nmX7, rfl, rfl, (fun h => nomatch h), fun _ => Or.inr ⟨_, rfl⟩, fun _ => rfl⟩
theorem flX7_34 : xFl0 RX7 34 7 16 true := ⟨RX7, TX7, 32, tyX7, rfl, by decide, xWd_in (List.mem_of_getElem? (i := 1003) (by decide +kernel)) rfl, xinX7, tyX7_ok, nmX7, rfl⟩
theorem fwX7_34 : xFl RX7 34 7 16 true true := ⟨RX7, TX7, 32, tyX7, rfl, by decide, xWd_in (List.mem_of_getElem? (i := 1003) (by decide +kernel)) rfl, xinX7, tyX7_ok, nmX7, rfl, rfl, (fun h => nomatch h), fun _ => Or.inr ⟨_, rfl⟩, fun _ => rfl⟩
theorem flX7_38 : xFl0 RX7 38 7 17 true := ⟨RX7, TX7, 32, tyX7, rfl, by decide, xWd_in (List.mem_of_getElem? (i := 1004) (by decide +kernel)) rfl, xinX7, tyX7_ok, nmX7, rfl⟩
theorem fwX7_38 : xFl RX7 38 7 17 true true := ⟨RX7, TX7, 32, tyX7, rfl, by decide, xWd_in (List.mem_of_getElem? (i := 1004) (by decide +kernel)) rfl, xinX7, tyX7_ok, nmX7, rfl, rfl, (fun h => nomatch h), fun _ => Or.inr ⟨_, rfl⟩, fun _ => rfl⟩
theorem flX7_41 : xFl0 RX7 41 7 18 true := ⟨RX7, TX7, 32, tyX7, rfl, by decide, xWd_in (List.mem_of_getElem? (i := 1005) (by decide +kernel)) rfl, xinX7, tyX7_ok, nmX7, rfl⟩
theorem fwX7_41 : xFl RX7 41 7 18 true true := ⟨RX7, TX7, 32, tyX7, rfl, by decide, xWd_in (List.mem_of_getElem? (i := 1005) (by decide +kernel)) rfl, xinX7, tyX7_ok, nmX7, rfl, rfl, (fun h => nomatch h), fun _ => Or.inr ⟨_, rfl⟩, fun _ => rfl⟩
theorem flX7_44 : xFl0 RX7 44 7 19 true := ⟨RX7, TX7, 32, tyX7, rfl, by decide, xWd_in (List.mem_of_getElem? (i := 1006) (by decide +kernel)) rfl, xinX7, tyX7_ok, nmX7, rfl⟩
theorem fwX7_44 : xFl RX7 44 7 19 true true := ⟨RX7, TX7, 32, tyX7, rfl, by decide, xWd_in (List.mem_of_getElem? (i := 1006) (by decide +kernel)) rfl, xinX7, tyX7_ok, nmX7, rfl, rfl, (fun h => nomatch h), fun _ => Or.inr ⟨_, rfl⟩, fun _ => rfl⟩
theorem flX7_259 : xFl0 RX7 259 7 20 false := ⟨RX7, TX7, 32, tyX7, rfl, by decide, xWd_in (List.mem_of_getElem? (i := 1007) (by decide +kernel)) rfl, xinX7, tyX7_ok, nmX7, rfl⟩
theorem fwX7_259 : xFl RX7 259 7 20 false false := ⟨RX7, TX7, 32, tyX7, rfl, by decide, xWd_in (List.mem_of_getElem? (i := 1007) (by decide +kernel)) rfl, xinX7, tyX7_ok, nmX7, rfl, rfl, fun _ => rfl, (fun h => nomatch h), (fun h => nomatch h)⟩
theorem flX7_100 : xFl0 RX7 100 7 21 false := ⟨RX7, TX7, 32, tyX7, rfl, by decide, xWd_in (List.mem_of_getElem? (i := 1008) (by decide +kernel)) rfl, xinX7, tyX7_ok, nmX7, rfl⟩
theorem fwX7_100 : xFl RX7 100 7 21 false false := ⟨RX7, TX7, 32, tyX7, rfl, by decide, xWd_in (List.mem_of_getElem? (i := 1008) (by decide +kernel)) rfl, xinX7, tyX7_ok, nmX7, rfl, rfl, fun _ => rfl, (fun h => nomatch h), (fun h => nomatch h)⟩
theorem flX7_106 : xFl0 RX7 106 7 22 false := ⟨RX7, TX7, 32, tyX7, rfl, by decide, xWd_in (List.mem_of_getElem? (i := 1009) (by decide +kernel)) rfl, xinX7, tyX7_ok, nmX7, rfl⟩
theorem fwX7_106 : xFl RX7 106 7 22 false false := ⟨RX7, TX7, 32, tyX7, rfl, by decide, xWd_in (List.mem_of_getElem? (i := 1009) (by decide +kernel)) rfl, xinX7, tyX7_ok, nmX7, rfl, rfl, fun _ => rfl, (fun h => nomatch h), (fun h => nomatch h)⟩
theorem flX7_103 : xFl0 RX7 103 7 23 false := ⟨RX7, TX7, 32, tyX7, rfl, by decide, xWd_in (List.mem_of_getElem? (i := 1010) (by decide +kernel)) rfl, xinX7, tyX7_ok, nmX7, rfl⟩
theorem fwX7_103 : xFl RX7 103 7 23 false false := ⟨RX7, TX7, 32, tyX7, rfl, by decide, xWd_in (List.mem_of_getElem? (i := 1010) (by decide +kernel)) rfl, xinX7, tyX7_ok, nmX7, rfl, rfl, fun _ => rfl, (fun h => nomatch h), (fun h => nomatch h)⟩
theorem flX7_136 : xFl0 RX7 136 7 24 false := ⟨RX7, TX7, 32, tyX7, rfl, by decide, xWd_in (List.mem_of_getElem? (i := 1011) (by decide +kernel)) rfl, xinX7, tyX7_ok, nmX7, rfl⟩
theorem fwX7_136 : xFl RX7 136 7 24 false false := ⟨RX7, TX7, 32, tyX7, rfl, by decide, xWd_in (List.mem_of_getElem? (i := 1011) (by decide +kernel)) rfl, xinX7, tyX7_ok, nmX7, rfl, rfl, fun _ => rfl, (fun h => nomatch h), (fun h => nomatch h)⟩
theorem flX7_120 : xFl0 RX7 120 7 25 false := ⟨RX7, TX7, 32, tyX7, rfl, by decide, xWd_in (List.mem_of_getElem? (i := 1012) (by decide +kernel)) rfl, xinX7, tyX7_ok, nmX7, rfl⟩
theorem fwX7_120 : xFl RX7 120 7 25 false false := ⟨RX7, TX7, 32, tyX7, rfl, by decide, xWd_in (List.mem_of_getElem? (i := 1012) (by decide +kernel)) rfl, xinX7, tyX7_ok, nmX7, rfl, rfl, fun _ => rfl, (fun h => nomatch h), (fun h => nomatch h)⟩
theorem flX7_132 : xFl0 RX7 132 7 26 false := ⟨RX7, TX7, 32, tyX7, rfl, by decide, xWd_in (List.mem_of_getElem? (i := 1013) (by decide +kernel)) rfl, xinX7, tyX7_ok, nmX7, rfl⟩
theorem fwX7_132 : xFl RX7 132 7 26 false false := ⟨RX7, TX7, 32, tyX7, rfl, by decide, xWd_in (List.mem_of_getElem? (i := 1013) (by decide +kernel)) rfl, xinX7, tyX7_ok, nmX7, rfl, rfl, fun _ => rfl, (fun h => nomatch h), (fun h => nomatch h)⟩
theorem flX7_47 : xFl0 RX7 47 7 27 true := ⟨RX7, TX7, 32, tyX7, rfl, by decide, xWd_in (List.mem_of_getElem? (i := 1014) (by decide +kernel)) rfl, xinX7, tyX7_ok, nmX7, rfl⟩
theorem fwX7_47 : xFl RX7 47 7 27 true true := ⟨RX7, TX7, 32, tyX7, rfl, by decide, xWd_in (List.mem_of_getElem? (i := 1014) (by decide +kernel)) rfl, xinX7, tyX7_ok, nmX7, rfl, rfl, (fun h => nomatch h), fun _ => Or.inr ⟨_, rfl⟩, fun _ => rfl⟩
theorem flX7_50 : xFl0 RX7 50 7 28 true := ⟨RX7, TX7, 32, tyX7, rfl, by decide, xWd_in (List.mem_of_getElem? (i := 1015) (by decide +kernel)) rfl, xinX7, tyX7_ok, nmX7, rfl⟩
theorem fwX7_50 : xFl RX7 50 7 28 true true := ⟨RX7, TX7, 32, tyX7, rfl, by decide, xWd_in (List.mem_of_getElem? (i := 1015) (by decide +kernel)) rfl, xinX7, tyX7_ok, nmX7, rfl, rfl, (fun h => nomatch h), fun _ => Or.inr ⟨_, rfl⟩, fun _ => rfl⟩
theorem flX7_53 : xFl0 RX7 53 7 29 true := ⟨RX7, TX7, 32, tyX7, rfl, by decide, xWd_in (List.mem_of_getElem? (i := 1016) (by decide +kernel)) rfl, xinX7, tyX7_ok, nmX7, rfl⟩
theorem fwX7_53 : xFl RX7 53 7 29 true true := ⟨RX7, TX7, 32, tyX7, rfl, by decide, xWd_in (List.mem_of_getElem? (i := 1016) (by decide +kernel)) rfl, xinX7, tyX7_ok, nmX7, rfl, rfl, (fun h => nomatch h), fun _ => Or.inr ⟨_, rfl⟩, fun _ => rfl⟩
theorem flX7_56 : xFl0 RX7 56 7 30 true := ⟨RX7, TX7, 32, tyX7, rfl, by decide, xWd_in (List.mem_of_getElem? (i := 1017) (by decide +kernel)) rfl, xinX7, tyX7_ok, nmX7, rfl⟩
theorem fwX7_56 : xFl RX7 56 7 30 true true := ⟨RX7, TX7, 32, tyX7, rfl, by decide, xWd_in (List.mem_of_getElem? (i := 1017) (by decide +kernel)) rfl, xinX7, tyX7_ok, nmX7, rfl, rfl, (fun h => nomatch h), fun _ => Or.inr ⟨_, rfl⟩, fun _ => rfl⟩
theorem flX7_59 : xFl0 RX7 59 7 31 true := ⟨RX7, TX7, 32, tyX7, rfl, by decide, xWd_in (List.mem_of_getElem? (i := 1018) (by decide +kernel)) rfl, xinX7, tyX7_ok, nmX7, rfl⟩
theorem fwX7_59 : xFl RX7 59 7 31 true true := ⟨RX7, TX7, 32, tyX7, rfl, by decide, xWd_in (List.mem_of_getElem? (i := 1018) (by decide +kernel)) rfl, xinX7, tyX7_ok, nmX7, rfl, rfl, (fun h => nomatch h), fun _ => Or.inr ⟨_, rfl⟩, fun _ => rfl⟩
theorem wlL_17 : Cond.methodLink RL 17 yX7_row ∈ xWd := xWd_in (List.mem_of_getElem? (i := 1085) (by decide +kernel)) rfl
theorem mdX7_row : xMd yX7_row cX7_row 5 (some .int) 3 := ⟨by decide +kernel, xWd_in (List.mem_of_getElem? (i := 1088) (by decide +kernel)) rfl, xWd_in (List.mem_of_getElem? (i := 96) (by decide +kernel)) rfl, by decide +kernel, by decide⟩
theorem miX7_row : Cond.instanceMethod yX7_row ∈ xWd ∧ Cond.selects yX7_row.cls yX7_row yX7_row ∈ xWd := ⟨xWd_in (List.mem_of_getElem? (i := 1086) (by decide +kernel)) rfl, xWd_in (List.mem_of_getElem? (i := 1087) (by decide +kernel)) rfl⟩
theorem wlX7_80 : Cond.methodLink RX7 80 yX7_isRow ∈ xWd := xWd_in (List.mem_of_getElem? (i := 1089) (by decide +kernel)) rfl
theorem mdX7_isRow : xMd yX7_isRow cX7_isRow 2 (some .boolean) 1 := ⟨by decide +kernel, xWd_in (List.mem_of_getElem? (i := 1092) (by decide +kernel)) rfl, xWd_in (List.mem_of_getElem? (i := 96) (by decide +kernel)) rfl, by decide +kernel, by decide⟩
theorem miX7_isRow : Cond.instanceMethod yX7_isRow ∈ xWd ∧ Cond.selects yX7_isRow.cls yX7_isRow yX7_isRow ∈ xWd := ⟨xWd_in (List.mem_of_getElem? (i := 1091) (by decide +kernel)) rfl, xWd_in (List.mem_of_getElem? (i := 47) (by decide +kernel)) rfl⟩
theorem wlX7_70 : Cond.methodLink RX7 70 yX7_in ∈ xWd := xWd_in (List.mem_of_getElem? (i := 1093) (by decide +kernel)) rfl
theorem mdX7_in : xMd yX7_in cX7_in 3 (some .boolean) 3 := ⟨by decide +kernel, xWd_in (List.mem_of_getElem? (i := 1095) (by decide +kernel)) rfl, xWd_in (List.mem_of_getElem? (i := 96) (by decide +kernel)) rfl, by decide +kernel, by decide⟩
theorem msX7_in : Cond.static yX7_in ∈ xWd := xWd_in (List.mem_of_getElem? (i := 1094) (by decide +kernel)) rfl
theorem wkX7_84 : Cond.constant RX7 84 (-1000001) ∈ xWd := xWd_in (List.mem_of_getElem? (i := 1096) (by decide +kernel)) rfl
theorem wlX7_85 : Cond.methodLink RX7 85 yX7_finds ∈ xWd := xWd_in (List.mem_of_getElem? (i := 1097) (by decide +kernel)) rfl
theorem mdX7_finds : xMd yX7_finds cX7_finds 2 (some .int) 1 := ⟨by decide +kernel, xWd_in (List.mem_of_getElem? (i := 1100) (by decide +kernel)) rfl, xWd_in (List.mem_of_getElem? (i := 96) (by decide +kernel)) rfl, by decide +kernel, by decide⟩
theorem miX7_finds : Cond.instanceMethod yX7_finds ∈ xWd ∧ Cond.selects yX7_finds.cls yX7_finds yX7_finds ∈ xWd := ⟨xWd_in (List.mem_of_getElem? (i := 1099) (by decide +kernel)) rfl, xWd_in (List.mem_of_getElem? (i := 48) (by decide +kernel)) rfl⟩
theorem wkX7_69 : Cond.constant RX7 69 (-1000010) ∈ xWd := xWd_in (List.mem_of_getElem? (i := 1101) (by decide +kernel)) rfl
theorem wlL_21 : Cond.methodLink RL 21 yX7_set ∈ xWd := xWd_in (List.mem_of_getElem? (i := 1102) (by decide +kernel)) rfl
theorem mdX7_set : xMd yX7_set cX7_set 4 (some .int) 3 := ⟨by decide +kernel, xWd_in (List.mem_of_getElem? (i := 1105) (by decide +kernel)) rfl, xWd_in (List.mem_of_getElem? (i := 96) (by decide +kernel)) rfl, by decide +kernel, by decide⟩
theorem miX7_set : Cond.instanceMethod yX7_set ∈ xWd ∧ Cond.selects yX7_set.cls yX7_set yX7_set ∈ xWd := ⟨xWd_in (List.mem_of_getElem? (i := 1103) (by decide +kernel)) rfl, xWd_in (List.mem_of_getElem? (i := 1104) (by decide +kernel)) rfl⟩
theorem wlX7_89 : Cond.methodLink RX7 89 yX7_cut ∈ xWd := xWd_in (List.mem_of_getElem? (i := 1106) (by decide +kernel)) rfl
theorem mdX7_cut : xMd yX7_cut cX7_cut 2 (some .int) 2 := ⟨by decide +kernel, xWd_in (List.mem_of_getElem? (i := 1108) (by decide +kernel)) rfl, xWd_in (List.mem_of_getElem? (i := 96) (by decide +kernel)) rfl, by decide +kernel, by decide⟩
theorem msX7_cut : Cond.static yX7_cut ∈ xWd := xWd_in (List.mem_of_getElem? (i := 1107) (by decide +kernel)) rfl
theorem wlL_26 : Cond.methodLink RL 26 yX7_copy ∈ xWd := xWd_in (List.mem_of_getElem? (i := 1109) (by decide +kernel)) rfl
theorem mdX7_copy : xMd yX7_copy cX7_copy 9 (some .int) 5 := ⟨by decide +kernel, xWd_in (List.mem_of_getElem? (i := 1112) (by decide +kernel)) rfl, xWd_in (List.mem_of_getElem? (i := 96) (by decide +kernel)) rfl, by decide +kernel, by decide⟩
theorem miX7_copy : Cond.instanceMethod yX7_copy ∈ xWd ∧ Cond.selects yX7_copy.cls yX7_copy yX7_copy ∈ xWd := ⟨xWd_in (List.mem_of_getElem? (i := 1110) (by decide +kernel)) rfl, xWd_in (List.mem_of_getElem? (i := 1111) (by decide +kernel)) rfl⟩
theorem wlX7_93 : Cond.methodLink RX7 93 yX7_isPart ∈ xWd := xWd_in (List.mem_of_getElem? (i := 1113) (by decide +kernel)) rfl
theorem mdX7_isPart : xMd yX7_isPart cX7_isPart 3 (some .boolean) 3 := ⟨by decide +kernel, xWd_in (List.mem_of_getElem? (i := 1115) (by decide +kernel)) rfl, xWd_in (List.mem_of_getElem? (i := 96) (by decide +kernel)) rfl, by decide +kernel, by decide⟩
theorem msX7_isPart : Cond.static yX7_isPart ∈ xWd := xWd_in (List.mem_of_getElem? (i := 1114) (by decide +kernel)) rfl
theorem wlL_31 : Cond.methodLink RL 31 yX7_drop ∈ xWd := xWd_in (List.mem_of_getElem? (i := 1116) (by decide +kernel)) rfl
theorem mdX7_drop : xMd yX7_drop cX7_drop 3 (some .int) 1 := ⟨by decide +kernel, xWd_in (List.mem_of_getElem? (i := 1119) (by decide +kernel)) rfl, xWd_in (List.mem_of_getElem? (i := 96) (by decide +kernel)) rfl, by decide +kernel, by decide⟩
theorem miX7_drop : Cond.instanceMethod yX7_drop ∈ xWd ∧ Cond.selects yX7_drop.cls yX7_drop yX7_drop ∈ xWd := ⟨xWd_in (List.mem_of_getElem? (i := 1117) (by decide +kernel)) rfl, xWd_in (List.mem_of_getElem? (i := 1118) (by decide +kernel)) rfl⟩
theorem wlL_35 : Cond.methodLink RL 35 yX7_feed ∈ xWd := xWd_in (List.mem_of_getElem? (i := 1120) (by decide +kernel)) rfl
theorem mdX7_feed : xMd yX7_feed cX7_feed 2 (some .int) 1 := ⟨by decide +kernel, xWd_in (List.mem_of_getElem? (i := 1123) (by decide +kernel)) rfl, xWd_in (List.mem_of_getElem? (i := 96) (by decide +kernel)) rfl, by decide +kernel, by decide⟩
theorem miX7_feed : Cond.instanceMethod yX7_feed ∈ xWd ∧ Cond.selects yX7_feed.cls yX7_feed yX7_feed ∈ xWd := ⟨xWd_in (List.mem_of_getElem? (i := 1121) (by decide +kernel)) rfl, xWd_in (List.mem_of_getElem? (i := 1122) (by decide +kernel)) rfl⟩
theorem wkX7_99 : Cond.constant RX7 99 (-1000003) ∈ xWd := xWd_in (List.mem_of_getElem? (i := 1124) (by decide +kernel)) rfl
theorem wlL_40 : Cond.methodLink RL 40 yX7_run ∈ xWd := xWd_in (List.mem_of_getElem? (i := 1125) (by decide +kernel)) rfl
theorem mdX7_run : xMd yX7_run cX7_run 1 (some .int) 0 := ⟨by decide +kernel, xWd_in (List.mem_of_getElem? (i := 1128) (by decide +kernel)) rfl, xWd_in (List.mem_of_getElem? (i := 96) (by decide +kernel)) rfl, by decide +kernel, by decide⟩
theorem miX7_run : Cond.instanceMethod yX7_run ∈ xWd ∧ Cond.selects yX7_run.cls yX7_run yX7_run ∈ xWd := ⟨xWd_in (List.mem_of_getElem? (i := 1126) (by decide +kernel)) rfl, xWd_in (List.mem_of_getElem? (i := 1127) (by decide +kernel)) rfl⟩
theorem wlX7_145 : Cond.methodLink RX7 145 yX7_readRun ∈ xWd := xWd_in (List.mem_of_getElem? (i := 1129) (by decide +kernel)) rfl
theorem mdX7_readRun : xMd yX7_readRun cX7_readRun 2 none 0 := ⟨by decide +kernel, xWd_in (List.mem_of_getElem? (i := 1132) (by decide +kernel)) rfl, xWd_in (List.mem_of_getElem? (i := 96) (by decide +kernel)) rfl, by decide +kernel, by decide⟩
theorem miX7_readRun : Cond.instanceMethod yX7_readRun ∈ xWd ∧ Cond.selects yX7_readRun.cls yX7_readRun yX7_readRun ∈ xWd := ⟨xWd_in (List.mem_of_getElem? (i := 1131) (by decide +kernel)) rfl, xWd_in (List.mem_of_getElem? (i := 49) (by decide +kernel)) rfl⟩
theorem wkX7_135 : Cond.constant RX7 135 (-1000000) ∈ xWd := xWd_in (List.mem_of_getElem? (i := 1133) (by decide +kernel)) rfl
theorem wlX7_123 : Cond.methodLink RX7 123 yX7_sign ∈ xWd := xWd_in (List.mem_of_getElem? (i := 1134) (by decide +kernel)) rfl
theorem mdX7_sign : xMd yX7_sign cX7_sign 2 none 1 := ⟨by decide +kernel, xWd_in (List.mem_of_getElem? (i := 1137) (by decide +kernel)) rfl, xWd_in (List.mem_of_getElem? (i := 96) (by decide +kernel)) rfl, by decide +kernel, by decide⟩
theorem miX7_sign : Cond.instanceMethod yX7_sign ∈ xWd ∧ Cond.selects yX7_sign.cls yX7_sign yX7_sign ∈ xWd := ⟨xWd_in (List.mem_of_getElem? (i := 1136) (by decide +kernel)) rfl, xWd_in (List.mem_of_getElem? (i := 50) (by decide +kernel)) rfl⟩
theorem wlX7_109 : Cond.methodLink RX7 109 yX7_here ∈ xWd := xWd_in (List.mem_of_getElem? (i := 1138) (by decide +kernel)) rfl
theorem mdX7_here : xMd yX7_here cX7_here 1 (some .int) 0 := ⟨by decide +kernel, xWd_in (List.mem_of_getElem? (i := 1141) (by decide +kernel)) rfl, xWd_in (List.mem_of_getElem? (i := 96) (by decide +kernel)) rfl, by decide +kernel, by decide⟩
theorem miX7_here : Cond.instanceMethod yX7_here ∈ xWd ∧ Cond.selects yX7_here.cls yX7_here yX7_here ∈ xWd := ⟨xWd_in (List.mem_of_getElem? (i := 1140) (by decide +kernel)) rfl, xWd_in (List.mem_of_getElem? (i := 51) (by decide +kernel)) rfl⟩
theorem wlX7_113 : Cond.methodLink RX7 113 yX7_fails ∈ xWd := xWd_in (List.mem_of_getElem? (i := 1142) (by decide +kernel)) rfl
theorem mdX7_fails : xMd yX7_fails cX7_fails 2 none 1 := ⟨by decide +kernel, xWd_in (List.mem_of_getElem? (i := 1145) (by decide +kernel)) rfl, xWd_in (List.mem_of_getElem? (i := 96) (by decide +kernel)) rfl, by decide +kernel, by decide⟩
theorem miX7_fails : Cond.instanceMethod yX7_fails ∈ xWd ∧ Cond.selects yX7_fails.cls yX7_fails yX7_fails ∈ xWd := ⟨xWd_in (List.mem_of_getElem? (i := 1144) (by decide +kernel)) rfl, xWd_in (List.mem_of_getElem? (i := 52) (by decide +kernel)) rfl⟩
theorem wlX7_126 : Cond.methodLink RX7 126 yX7_number ∈ xWd := xWd_in (List.mem_of_getElem? (i := 1146) (by decide +kernel)) rfl
theorem mdX7_number : xMd yX7_number cX7_number 5 (some .int) 2 := ⟨by decide +kernel, xWd_in (List.mem_of_getElem? (i := 1149) (by decide +kernel)) rfl, xWd_in (List.mem_of_getElem? (i := 96) (by decide +kernel)) rfl, by decide +kernel, by decide⟩
theorem miX7_number : Cond.instanceMethod yX7_number ∈ xWd ∧ Cond.selects yX7_number.cls yX7_number yX7_number ∈ xWd := ⟨xWd_in (List.mem_of_getElem? (i := 1148) (by decide +kernel)) rfl, xWd_in (List.mem_of_getElem? (i := 53) (by decide +kernel)) rfl⟩
theorem wlX7_117 : Cond.methodLink RX7 117 yX7_figures ∈ xWd := xWd_in (List.mem_of_getElem? (i := 1150) (by decide +kernel)) rfl
theorem mdX7_figures : xMd yX7_figures cX7_figures 2 (some .int) 0 := ⟨by decide +kernel, xWd_in (List.mem_of_getElem? (i := 1153) (by decide +kernel)) rfl, xWd_in (List.mem_of_getElem? (i := 96) (by decide +kernel)) rfl, by decide +kernel, by decide⟩
theorem miX7_figures : Cond.instanceMethod yX7_figures ∈ xWd ∧ Cond.selects yX7_figures.cls yX7_figures yX7_figures ∈ xWd := ⟨xWd_in (List.mem_of_getElem? (i := 1152) (by decide +kernel)) rfl, xWd_in (List.mem_of_getElem? (i := 54) (by decide +kernel)) rfl⟩
theorem wlX7_139 : Cond.methodLink RX7 139 yX7_readMarble ∈ xWd := xWd_in (List.mem_of_getElem? (i := 1154) (by decide +kernel)) rfl
theorem mdX7_readMarble : xMd yX7_readMarble cX7_readMarble 1 none 0 := ⟨by decide +kernel, xWd_in (List.mem_of_getElem? (i := 1157) (by decide +kernel)) rfl, xWd_in (List.mem_of_getElem? (i := 96) (by decide +kernel)) rfl, by decide +kernel, by decide⟩
theorem miX7_readMarble : Cond.instanceMethod yX7_readMarble ∈ xWd ∧ Cond.selects yX7_readMarble.cls yX7_readMarble yX7_readMarble ∈ xWd := ⟨xWd_in (List.mem_of_getElem? (i := 1156) (by decide +kernel)) rfl, xWd_in (List.mem_of_getElem? (i := 55) (by decide +kernel)) rfl⟩
theorem wlX7_142 : Cond.methodLink RX7 142 yX7_readPiece ∈ xWd := xWd_in (List.mem_of_getElem? (i := 1158) (by decide +kernel)) rfl
theorem mdX7_readPiece : xMd yX7_readPiece cX7_readPiece 2 none 0 := ⟨by decide +kernel, xWd_in (List.mem_of_getElem? (i := 1161) (by decide +kernel)) rfl, xWd_in (List.mem_of_getElem? (i := 96) (by decide +kernel)) rfl, by decide +kernel, by decide⟩
theorem miX7_readPiece : Cond.instanceMethod yX7_readPiece ∈ xWd ∧ Cond.selects yX7_readPiece.cls yX7_readPiece yX7_readPiece ∈ xWd := ⟨xWd_in (List.mem_of_getElem? (i := 1160) (by decide +kernel)) rfl, xWd_in (List.mem_of_getElem? (i := 56) (by decide +kernel)) rfl⟩
theorem wlX7_129 : Cond.methodLink RX7 129 yX7_sortBy ∈ xWd := xWd_in (List.mem_of_getElem? (i := 1162) (by decide +kernel)) rfl
theorem mdX7_sortBy : xMd yX7_sortBy cX7_sortBy 1 (some .int) 1 := ⟨by decide +kernel, xWd_in (List.mem_of_getElem? (i := 1164) (by decide +kernel)) rfl, xWd_in (List.mem_of_getElem? (i := 96) (by decide +kernel)) rfl, by decide +kernel, by decide⟩
theorem msX7_sortBy : Cond.static yX7_sortBy ∈ xWd := xWd_in (List.mem_of_getElem? (i := 1163) (by decide +kernel)) rfl
theorem wkX7_151 : Cond.constant RX7 151 (-1000100) ∈ xWd := xWd_in (List.mem_of_getElem? (i := 1165) (by decide +kernel)) rfl
theorem wlX7_155 : Cond.methodLink RX7 155 yX7_bring ∈ xWd := xWd_in (List.mem_of_getElem? (i := 1166) (by decide +kernel)) rfl
theorem mdX7_bring : xMd yX7_bring cX7_bring 6 none 5 := ⟨by decide +kernel, xWd_in (List.mem_of_getElem? (i := 1168) (by decide +kernel)) rfl, xWd_in (List.mem_of_getElem? (i := 96) (by decide +kernel)) rfl, by decide +kernel, by decide⟩
theorem msX7_bring : Cond.static yX7_bring ∈ xWd := xWd_in (List.mem_of_getElem? (i := 1167) (by decide +kernel)) rfl
theorem wlL_44 : Cond.methodLink RL 44 yX7_fault ∈ xWd := xWd_in (List.mem_of_getElem? (i := 1169) (by decide +kernel)) rfl
theorem mdX7_fault : xMd yX7_fault cX7_fault 1 (some .int) 0 := ⟨by decide +kernel, xWd_in (List.mem_of_getElem? (i := 1172) (by decide +kernel)) rfl, xWd_in (List.mem_of_getElem? (i := 96) (by decide +kernel)) rfl, by decide +kernel, by decide⟩
theorem miX7_fault : Cond.instanceMethod yX7_fault ∈ xWd ∧ Cond.selects yX7_fault.cls yX7_fault yX7_fault ∈ xWd := ⟨xWd_in (List.mem_of_getElem? (i := 1170) (by decide +kernel)) rfl, xWd_in (List.mem_of_getElem? (i := 1171) (by decide +kernel)) rfl⟩
theorem wlL_48 : Cond.methodLink RL 48 yX7_undo ∈ xWd := xWd_in (List.mem_of_getElem? (i := 1173) (by decide +kernel)) rfl
theorem mdX7_undo : xMd yX7_undo cX7_undo 1 (some .int) 0 := ⟨by decide +kernel, xWd_in (List.mem_of_getElem? (i := 1176) (by decide +kernel)) rfl, xWd_in (List.mem_of_getElem? (i := 96) (by decide +kernel)) rfl, by decide +kernel, by decide⟩
theorem miX7_undo : Cond.instanceMethod yX7_undo ∈ xWd ∧ Cond.selects yX7_undo.cls yX7_undo yX7_undo ∈ xWd := ⟨xWd_in (List.mem_of_getElem? (i := 1174) (by decide +kernel)) rfl, xWd_in (List.mem_of_getElem? (i := 1175) (by decide +kernel)) rfl⟩
theorem wkX7_173 : Cond.constant RX7 173 (-1000002) ∈ xWd := xWd_in (List.mem_of_getElem? (i := 1177) (by decide +kernel)) rfl
theorem wlL_52 : Cond.methodLink RL 52 yX7_ticks ∈ xWd := xWd_in (List.mem_of_getElem? (i := 1178) (by decide +kernel)) rfl
theorem mdX7_ticks : xMd yX7_ticks cX7_ticks 3 (some .int) 1 := ⟨by decide +kernel, xWd_in (List.mem_of_getElem? (i := 1181) (by decide +kernel)) rfl, xWd_in (List.mem_of_getElem? (i := 96) (by decide +kernel)) rfl, by decide +kernel, by decide⟩
theorem miX7_ticks : Cond.instanceMethod yX7_ticks ∈ xWd ∧ Cond.selects yX7_ticks.cls yX7_ticks yX7_ticks ∈ xWd := ⟨xWd_in (List.mem_of_getElem? (i := 1179) (by decide +kernel)) rfl, xWd_in (List.mem_of_getElem? (i := 1180) (by decide +kernel)) rfl⟩
theorem wlX7_174 : Cond.methodLink RX7 174 yX7_isNone ∈ xWd := xWd_in (List.mem_of_getElem? (i := 1182) (by decide +kernel)) rfl
theorem mdX7_isNone : xMd yX7_isNone cX7_isNone 1 (some .boolean) 0 := ⟨by decide +kernel, xWd_in (List.mem_of_getElem? (i := 1185) (by decide +kernel)) rfl, xWd_in (List.mem_of_getElem? (i := 96) (by decide +kernel)) rfl, by decide +kernel, by decide⟩
theorem miX7_isNone : Cond.instanceMethod yX7_isNone ∈ xWd ∧ Cond.selects yX7_isNone.cls yX7_isNone yX7_isNone ∈ xWd := ⟨xWd_in (List.mem_of_getElem? (i := 1184) (by decide +kernel)) rfl, xWd_in (List.mem_of_getElem? (i := 57) (by decide +kernel)) rfl⟩
theorem wlX7_178 : Cond.methodLink RX7 178 yX7_notes ∈ xWd := xWd_in (List.mem_of_getElem? (i := 1186) (by decide +kernel)) rfl
theorem mdX7_notes : xMd yX7_notes cX7_notes 1 none 0 := ⟨by decide +kernel, xWd_in (List.mem_of_getElem? (i := 1189) (by decide +kernel)) rfl, xWd_in (List.mem_of_getElem? (i := 96) (by decide +kernel)) rfl, by decide +kernel, by decide⟩
theorem miX7_notes : Cond.instanceMethod yX7_notes ∈ xWd ∧ Cond.selects yX7_notes.cls yX7_notes yX7_notes ∈ xWd := ⟨xWd_in (List.mem_of_getElem? (i := 1188) (by decide +kernel)) rfl, xWd_in (List.mem_of_getElem? (i := 58) (by decide +kernel)) rfl⟩
theorem wlX7_181 : Cond.methodLink RX7 181 yX7_tickOn ∈ xWd := xWd_in (List.mem_of_getElem? (i := 1190) (by decide +kernel)) rfl
theorem mdX7_tickOn : xMd yX7_tickOn cX7_tickOn 4 none 1 := ⟨by decide +kernel, xWd_in (List.mem_of_getElem? (i := 1193) (by decide +kernel)) rfl, xWd_in (List.mem_of_getElem? (i := 96) (by decide +kernel)) rfl, by decide +kernel, by decide⟩
theorem miX7_tickOn : Cond.instanceMethod yX7_tickOn ∈ xWd ∧ Cond.selects yX7_tickOn.cls yX7_tickOn yX7_tickOn ∈ xWd := ⟨xWd_in (List.mem_of_getElem? (i := 1192) (by decide +kernel)) rfl, xWd_in (List.mem_of_getElem? (i := 59) (by decide +kernel)) rfl⟩
theorem wlX7_169 : Cond.methodLink RX7 169 yX7_leaves ∈ xWd := xWd_in (List.mem_of_getElem? (i := 1194) (by decide +kernel)) rfl
theorem mdX7_leaves : xMd yX7_leaves cX7_leaves 5 none 2 := ⟨by decide +kernel, xWd_in (List.mem_of_getElem? (i := 1197) (by decide +kernel)) rfl, xWd_in (List.mem_of_getElem? (i := 96) (by decide +kernel)) rfl, by decide +kernel, by decide⟩
theorem miX7_leaves : Cond.instanceMethod yX7_leaves ∈ xWd ∧ Cond.selects yX7_leaves.cls yX7_leaves yX7_leaves ∈ xWd := ⟨xWd_in (List.mem_of_getElem? (i := 1196) (by decide +kernel)) rfl, xWd_in (List.mem_of_getElem? (i := 60) (by decide +kernel)) rfl⟩
theorem wlX7_165 : Cond.methodLink RX7 165 yX7_sends ∈ xWd := xWd_in (List.mem_of_getElem? (i := 1198) (by decide +kernel)) rfl
theorem mdX7_sends : xMd yX7_sends cX7_sends 4 none 3 := ⟨by decide +kernel, xWd_in (List.mem_of_getElem? (i := 1201) (by decide +kernel)) rfl, xWd_in (List.mem_of_getElem? (i := 96) (by decide +kernel)) rfl, by decide +kernel, by decide⟩
theorem miX7_sends : Cond.instanceMethod yX7_sends ∈ xWd ∧ Cond.selects yX7_sends.cls yX7_sends yX7_sends ∈ xWd := ⟨xWd_in (List.mem_of_getElem? (i := 1200) (by decide +kernel)) rfl, xWd_in (List.mem_of_getElem? (i := 61) (by decide +kernel)) rfl⟩
theorem wlX7_185 : Cond.methodLink RX7 185 yX7_those ∈ xWd := xWd_in (List.mem_of_getElem? (i := 1202) (by decide +kernel)) rfl
theorem mdX7_those : xMd yX7_those cX7_those 6 (some .int) 3 := ⟨by decide +kernel, xWd_in (List.mem_of_getElem? (i := 1205) (by decide +kernel)) rfl, xWd_in (List.mem_of_getElem? (i := 96) (by decide +kernel)) rfl, by decide +kernel, by decide⟩
theorem miX7_those : Cond.instanceMethod yX7_those ∈ xWd ∧ Cond.selects yX7_those.cls yX7_those yX7_those ∈ xWd := ⟨xWd_in (List.mem_of_getElem? (i := 1204) (by decide +kernel)) rfl, xWd_in (List.mem_of_getElem? (i := 62) (by decide +kernel)) rfl⟩
theorem wlL_56 : Cond.methodLink RL 56 yX7_tip ∈ xWd := xWd_in (List.mem_of_getElem? (i := 1206) (by decide +kernel)) rfl
theorem mdX7_tip : xMd yX7_tip cX7_tip 2 (some .int) 1 := ⟨by decide +kernel, xWd_in (List.mem_of_getElem? (i := 1209) (by decide +kernel)) rfl, xWd_in (List.mem_of_getElem? (i := 96) (by decide +kernel)) rfl, by decide +kernel, by decide⟩
theorem miX7_tip : Cond.instanceMethod yX7_tip ∈ xWd ∧ Cond.selects yX7_tip.cls yX7_tip yX7_tip ∈ xWd := ⟨xWd_in (List.mem_of_getElem? (i := 1207) (by decide +kernel)) rfl, xWd_in (List.mem_of_getElem? (i := 1208) (by decide +kernel)) rfl⟩
theorem wlX7_189 : Cond.methodLink RX7 189 yX7_isPiece ∈ xWd := xWd_in (List.mem_of_getElem? (i := 1210) (by decide +kernel)) rfl
theorem mdX7_isPiece : xMd yX7_isPiece cX7_isPiece 2 (some .boolean) 1 := ⟨by decide +kernel, xWd_in (List.mem_of_getElem? (i := 1213) (by decide +kernel)) rfl, xWd_in (List.mem_of_getElem? (i := 96) (by decide +kernel)) rfl, by decide +kernel, by decide⟩
theorem miX7_isPiece : Cond.instanceMethod yX7_isPiece ∈ xWd ∧ Cond.selects yX7_isPiece.cls yX7_isPiece yX7_isPiece ∈ xWd := ⟨xWd_in (List.mem_of_getElem? (i := 1212) (by decide +kernel)) rfl, xWd_in (List.mem_of_getElem? (i := 63) (by decide +kernel)) rfl⟩
theorem wlL_60 : Cond.methodLink RL 60 yX7_lead ∈ xWd := xWd_in (List.mem_of_getElem? (i := 1214) (by decide +kernel)) rfl
theorem mdX7_lead : xMd yX7_lead cX7_lead 6 (some .int) 3 := ⟨by decide +kernel, xWd_in (List.mem_of_getElem? (i := 1217) (by decide +kernel)) rfl, xWd_in (List.mem_of_getElem? (i := 96) (by decide +kernel)) rfl, by decide +kernel, by decide⟩
theorem miX7_lead : Cond.instanceMethod yX7_lead ∈ xWd ∧ Cond.selects yX7_lead.cls yX7_lead yX7_lead ∈ xWd := ⟨xWd_in (List.mem_of_getElem? (i := 1215) (by decide +kernel)) rfl, xWd_in (List.mem_of_getElem? (i := 1216) (by decide +kernel)) rfl⟩
theorem wlL_65 : Cond.methodLink RL 65 yX7_again ∈ xWd := xWd_in (List.mem_of_getElem? (i := 1218) (by decide +kernel)) rfl
theorem mdX7_again : xMd yX7_again cX7_again 3 (some .int) 2 := ⟨by decide +kernel, xWd_in (List.mem_of_getElem? (i := 1221) (by decide +kernel)) rfl, xWd_in (List.mem_of_getElem? (i := 96) (by decide +kernel)) rfl, by decide +kernel, by decide⟩
theorem miX7_again : Cond.instanceMethod yX7_again ∈ xWd ∧ Cond.selects yX7_again.cls yX7_again yX7_again ∈ xWd := ⟨xWd_in (List.mem_of_getElem? (i := 1219) (by decide +kernel)) rfl, xWd_in (List.mem_of_getElem? (i := 1220) (by decide +kernel)) rfl⟩
theorem wlX7_192 : Cond.methodLink RX7 192 yX7_isMarble ∈ xWd := xWd_in (List.mem_of_getElem? (i := 1222) (by decide +kernel)) rfl
theorem mdX7_isMarble : xMd yX7_isMarble cX7_isMarble 2 (some .boolean) 1 := ⟨by decide +kernel, xWd_in (List.mem_of_getElem? (i := 1225) (by decide +kernel)) rfl, xWd_in (List.mem_of_getElem? (i := 96) (by decide +kernel)) rfl, by decide +kernel, by decide⟩
theorem miX7_isMarble : Cond.instanceMethod yX7_isMarble ∈ xWd ∧ Cond.selects yX7_isMarble.cls yX7_isMarble yX7_isMarble ∈ xWd := ⟨xWd_in (List.mem_of_getElem? (i := 1224) (by decide +kernel)) rfl, xWd_in (List.mem_of_getElem? (i := 64) (by decide +kernel)) rfl⟩
theorem wlX7_195 : Cond.methodLink RX7 195 yX7_isInTray ∈ xWd := xWd_in (List.mem_of_getElem? (i := 1226) (by decide +kernel)) rfl
theorem mdX7_isInTray : xMd yX7_isInTray cX7_isInTray 3 (some .boolean) 2 := ⟨by decide +kernel, xWd_in (List.mem_of_getElem? (i := 1229) (by decide +kernel)) rfl, xWd_in (List.mem_of_getElem? (i := 96) (by decide +kernel)) rfl, by decide +kernel, by decide⟩
theorem miX7_isInTray : Cond.instanceMethod yX7_isInTray ∈ xWd ∧ Cond.selects yX7_isInTray.cls yX7_isInTray yX7_isInTray ∈ xWd := ⟨xWd_in (List.mem_of_getElem? (i := 1228) (by decide +kernel)) rfl, xWd_in (List.mem_of_getElem? (i := 65) (by decide +kernel)) rfl⟩
theorem wlX7_199 : Cond.methodLink RX7 199 yX7_comes ∈ xWd := xWd_in (List.mem_of_getElem? (i := 1230) (by decide +kernel)) rfl
theorem mdX7_comes : xMd yX7_comes cX7_comes 3 none 3 := ⟨by decide +kernel, xWd_in (List.mem_of_getElem? (i := 1232) (by decide +kernel)) rfl, xWd_in (List.mem_of_getElem? (i := 96) (by decide +kernel)) rfl, by decide +kernel, by decide⟩
theorem msX7_comes : Cond.static yX7_comes ∈ xWd := xWd_in (List.mem_of_getElem? (i := 1231) (by decide +kernel)) rfl
theorem wlL_69 : Cond.methodLink RL 69 yX7_marble ∈ xWd := xWd_in (List.mem_of_getElem? (i := 1233) (by decide +kernel)) rfl
theorem mdX7_marble : xMd yX7_marble cX7_marble 3 (some .int) 2 := ⟨by decide +kernel, xWd_in (List.mem_of_getElem? (i := 1236) (by decide +kernel)) rfl, xWd_in (List.mem_of_getElem? (i := 96) (by decide +kernel)) rfl, by decide +kernel, by decide⟩
theorem miX7_marble : Cond.instanceMethod yX7_marble ∈ xWd ∧ Cond.selects yX7_marble.cls yX7_marble yX7_marble ∈ xWd := ⟨xWd_in (List.mem_of_getElem? (i := 1234) (by decide +kernel)) rfl, xWd_in (List.mem_of_getElem? (i := 1235) (by decide +kernel)) rfl⟩
theorem wlL_73 : Cond.methodLink RL 73 yX7_piece ∈ xWd := xWd_in (List.mem_of_getElem? (i := 1237) (by decide +kernel)) rfl
theorem mdX7_piece : xMd yX7_piece cX7_piece 3 (some .int) 2 := ⟨by decide +kernel, xWd_in (List.mem_of_getElem? (i := 1240) (by decide +kernel)) rfl, xWd_in (List.mem_of_getElem? (i := 96) (by decide +kernel)) rfl, by decide +kernel, by decide⟩
theorem miX7_piece : Cond.instanceMethod yX7_piece ∈ xWd ∧ Cond.selects yX7_piece.cls yX7_piece yX7_piece ∈ xWd := ⟨xWd_in (List.mem_of_getElem? (i := 1238) (by decide +kernel)) rfl, xWd_in (List.mem_of_getElem? (i := 1239) (by decide +kernel)) rfl⟩
theorem wlL_77 : Cond.methodLink RL 77 yX7_stand ∈ xWd := xWd_in (List.mem_of_getElem? (i := 1241) (by decide +kernel)) rfl
theorem mdX7_stand : xMd yX7_stand cX7_stand 2 (some .int) 1 := ⟨by decide +kernel, xWd_in (List.mem_of_getElem? (i := 1244) (by decide +kernel)) rfl, xWd_in (List.mem_of_getElem? (i := 96) (by decide +kernel)) rfl, by decide +kernel, by decide⟩
theorem miX7_stand : Cond.instanceMethod yX7_stand ∈ xWd ∧ Cond.selects yX7_stand.cls yX7_stand yX7_stand ∈ xWd := ⟨xWd_in (List.mem_of_getElem? (i := 1242) (by decide +kernel)) rfl, xWd_in (List.mem_of_getElem? (i := 1243) (by decide +kernel)) rfl⟩
theorem wlL_81 : Cond.methodLink RL 81 yX7_ahead ∈ xWd := xWd_in (List.mem_of_getElem? (i := 1245) (by decide +kernel)) rfl
theorem mdX7_ahead : xMd yX7_ahead cX7_ahead 3 (some .int) 2 := ⟨by decide +kernel, xWd_in (List.mem_of_getElem? (i := 1248) (by decide +kernel)) rfl, xWd_in (List.mem_of_getElem? (i := 96) (by decide +kernel)) rfl, by decide +kernel, by decide⟩
theorem miX7_ahead : Cond.instanceMethod yX7_ahead ∈ xWd ∧ Cond.selects yX7_ahead.cls yX7_ahead yX7_ahead ∈ xWd := ⟨xWd_in (List.mem_of_getElem? (i := 1246) (by decide +kernel)) rfl, xWd_in (List.mem_of_getElem? (i := 1247) (by decide +kernel)) rfl⟩
theorem wlX7_202 : Cond.methodLink RX7 202 yX7_asItIs ∈ xWd := xWd_in (List.mem_of_getElem? (i := 1249) (by decide +kernel)) rfl
theorem mdX7_asItIs : xMd yX7_asItIs cX7_asItIs 1 none 0 := ⟨by decide +kernel, xWd_in (List.mem_of_getElem? (i := 1252) (by decide +kernel)) rfl, xWd_in (List.mem_of_getElem? (i := 96) (by decide +kernel)) rfl, by decide +kernel, by decide⟩
theorem miX7_asItIs : Cond.instanceMethod yX7_asItIs ∈ xWd ∧ Cond.selects yX7_asItIs.cls yX7_asItIs yX7_asItIs ∈ xWd := ⟨xWd_in (List.mem_of_getElem? (i := 1251) (by decide +kernel)) rfl, xWd_in (List.mem_of_getElem? (i := 66) (by decide +kernel)) rfl⟩
theorem wlX7_205 : Cond.methodLink RX7 205 yX7_goes ∈ xWd := xWd_in (List.mem_of_getElem? (i := 1253) (by decide +kernel)) rfl
theorem mdX7_goes : xMd yX7_goes cX7_goes 3 none 1 := ⟨by decide +kernel, xWd_in (List.mem_of_getElem? (i := 1256) (by decide +kernel)) rfl, xWd_in (List.mem_of_getElem? (i := 96) (by decide +kernel)) rfl, by decide +kernel, by decide⟩
theorem miX7_goes : Cond.instanceMethod yX7_goes ∈ xWd ∧ Cond.selects yX7_goes.cls yX7_goes yX7_goes ∈ xWd := ⟨xWd_in (List.mem_of_getElem? (i := 1255) (by decide +kernel)) rfl, xWd_in (List.mem_of_getElem? (i := 67) (by decide +kernel)) rfl⟩
theorem wlL_85 : Cond.methodLink RL 85 yX7_stands ∈ xWd := xWd_in (List.mem_of_getElem? (i := 1257) (by decide +kernel)) rfl
theorem mdX7_stands : xMd yX7_stands cX7_stands 4 (some .int) 3 := ⟨by decide +kernel, xWd_in (List.mem_of_getElem? (i := 1260) (by decide +kernel)) rfl, xWd_in (List.mem_of_getElem? (i := 96) (by decide +kernel)) rfl, by decide +kernel, by decide⟩
theorem miX7_stands : Cond.instanceMethod yX7_stands ∈ xWd ∧ Cond.selects yX7_stands.cls yX7_stands yX7_stands ∈ xWd := ⟨xWd_in (List.mem_of_getElem? (i := 1258) (by decide +kernel)) rfl, xWd_in (List.mem_of_getElem? (i := 1259) (by decide +kernel)) rfl⟩
theorem wlL_89 : Cond.methodLink RL 89 yX7_trays ∈ xWd := xWd_in (List.mem_of_getElem? (i := 1261) (by decide +kernel)) rfl
theorem mdX7_trays : xMd yX7_trays cX7_trays 3 (some .int) 2 := ⟨by decide +kernel, xWd_in (List.mem_of_getElem? (i := 1264) (by decide +kernel)) rfl, xWd_in (List.mem_of_getElem? (i := 96) (by decide +kernel)) rfl, by decide +kernel, by decide⟩
theorem miX7_trays : Cond.instanceMethod yX7_trays ∈ xWd ∧ Cond.selects yX7_trays.cls yX7_trays yX7_trays ∈ xWd := ⟨xWd_in (List.mem_of_getElem? (i := 1262) (by decide +kernel)) rfl, xWd_in (List.mem_of_getElem? (i := 1263) (by decide +kernel)) rfl⟩
theorem wlX7_208 : Cond.methodLink RX7 208 yX7_leftOf ∈ xWd := xWd_in (List.mem_of_getElem? (i := 1265) (by decide +kernel)) rfl
theorem mdX7_leftOf : xMd yX7_leftOf cX7_leftOf 1 (some .int) 0 := ⟨by decide +kernel, xWd_in (List.mem_of_getElem? (i := 1268) (by decide +kernel)) rfl, xWd_in (List.mem_of_getElem? (i := 96) (by decide +kernel)) rfl, by decide +kernel, by decide⟩
theorem miX7_leftOf : Cond.instanceMethod yX7_leftOf ∈ xWd ∧ Cond.selects yX7_leftOf.cls yX7_leftOf yX7_leftOf ∈ xWd := ⟨xWd_in (List.mem_of_getElem? (i := 1267) (by decide +kernel)) rfl, xWd_in (List.mem_of_getElem? (i := 68) (by decide +kernel)) rfl⟩
theorem wlX7_211 : Cond.methodLink RX7 211 yX7_rightOf ∈ xWd := xWd_in (List.mem_of_getElem? (i := 1269) (by decide +kernel)) rfl
theorem mdX7_rightOf : xMd yX7_rightOf cX7_rightOf 1 (some .int) 0 := ⟨by decide +kernel, xWd_in (List.mem_of_getElem? (i := 1272) (by decide +kernel)) rfl, xWd_in (List.mem_of_getElem? (i := 96) (by decide +kernel)) rfl, by decide +kernel, by decide⟩
theorem miX7_rightOf : Cond.instanceMethod yX7_rightOf ∈ xWd ∧ Cond.selects yX7_rightOf.cls yX7_rightOf yX7_rightOf ∈ xWd := ⟨xWd_in (List.mem_of_getElem? (i := 1271) (by decide +kernel)) rfl, xWd_in (List.mem_of_getElem? (i := 69) (by decide +kernel)) rfl⟩
theorem wlL_93 : Cond.methodLink RL 93 yX7_when ∈ xWd := xWd_in (List.mem_of_getElem? (i := 1273) (by decide +kernel)) rfl
theorem mdX7_when : xMd yX7_when cX7_when 3 (some .int) 1 := ⟨by decide +kernel, xWd_in (List.mem_of_getElem? (i := 1276) (by decide +kernel)) rfl, xWd_in (List.mem_of_getElem? (i := 96) (by decide +kernel)) rfl, by decide +kernel, by decide⟩
theorem miX7_when : Cond.instanceMethod yX7_when ∈ xWd ∧ Cond.selects yX7_when.cls yX7_when yX7_when ∈ xWd := ⟨xWd_in (List.mem_of_getElem? (i := 1274) (by decide +kernel)) rfl, xWd_in (List.mem_of_getElem? (i := 1275) (by decide +kernel)) rfl⟩
theorem wlL_97 : Cond.methodLink RL 97 yX7_rest ∈ xWd := xWd_in (List.mem_of_getElem? (i := 1277) (by decide +kernel)) rfl
theorem mdX7_rest : xMd yX7_rest cX7_rest 2 (some .int) 0 := ⟨by decide +kernel, xWd_in (List.mem_of_getElem? (i := 1280) (by decide +kernel)) rfl, xWd_in (List.mem_of_getElem? (i := 96) (by decide +kernel)) rfl, by decide +kernel, by decide⟩
theorem miX7_rest : Cond.instanceMethod yX7_rest ∈ xWd ∧ Cond.selects yX7_rest.cls yX7_rest yX7_rest ∈ xWd := ⟨xWd_in (List.mem_of_getElem? (i := 1278) (by decide +kernel)) rfl, xWd_in (List.mem_of_getElem? (i := 1279) (by decide +kernel)) rfl⟩
theorem wlL_101 : Cond.methodLink RL 101 yX7_tips ∈ xWd := xWd_in (List.mem_of_getElem? (i := 1281) (by decide +kernel)) rfl
theorem mdX7_tips : xMd yX7_tips cX7_tips 7 (some .int) 2 := ⟨by decide +kernel, xWd_in (List.mem_of_getElem? (i := 1284) (by decide +kernel)) rfl, xWd_in (List.mem_of_getElem? (i := 96) (by decide +kernel)) rfl, by decide +kernel, by decide⟩
theorem miX7_tips : Cond.instanceMethod yX7_tips ∈ xWd ∧ Cond.selects yX7_tips.cls yX7_tips yX7_tips ∈ xWd := ⟨xWd_in (List.mem_of_getElem? (i := 1282) (by decide +kernel)) rfl, xWd_in (List.mem_of_getElem? (i := 1283) (by decide +kernel)) rfl⟩
theorem wlX7_214 : Cond.methodLink RX7 214 yX7_tipsNow ∈ xWd := xWd_in (List.mem_of_getElem? (i := 1285) (by decide +kernel)) rfl
theorem mdX7_tipsNow : xMd yX7_tipsNow cX7_tipsNow 3 none 1 := ⟨by decide +kernel, xWd_in (List.mem_of_getElem? (i := 1288) (by decide +kernel)) rfl, xWd_in (List.mem_of_getElem? (i := 96) (by decide +kernel)) rfl, by decide +kernel, by decide⟩
theorem miX7_tipsNow : Cond.instanceMethod yX7_tipsNow ∈ xWd ∧ Cond.selects yX7_tipsNow.cls yX7_tipsNow yX7_tipsNow ∈ xWd := ⟨xWd_in (List.mem_of_getElem? (i := 1287) (by decide +kernel)) rfl, xWd_in (List.mem_of_getElem? (i := 70) (by decide +kernel)) rfl⟩
theorem wlX7_217 : Cond.methodLink RX7 217 yX7_bits ∈ xWd := xWd_in (List.mem_of_getElem? (i := 1289) (by decide +kernel)) rfl
theorem mdX7_bits : xMd yX7_bits cX7_bits 3 (some .int) 1 := ⟨by decide +kernel, xWd_in (List.mem_of_getElem? (i := 1291) (by decide +kernel)) rfl, xWd_in (List.mem_of_getElem? (i := 96) (by decide +kernel)) rfl, by decide +kernel, by decide⟩
theorem msX7_bits : Cond.static yX7_bits ∈ xWd := xWd_in (List.mem_of_getElem? (i := 1290) (by decide +kernel)) rfl
theorem wlL_105 : Cond.methodLink RL 105 yX7_order ∈ xWd := xWd_in (List.mem_of_getElem? (i := 1292) (by decide +kernel)) rfl
theorem mdX7_order : xMd yX7_order cX7_order 7 (some .int) 2 := ⟨by decide +kernel, xWd_in (List.mem_of_getElem? (i := 1295) (by decide +kernel)) rfl, xWd_in (List.mem_of_getElem? (i := 96) (by decide +kernel)) rfl, by decide +kernel, by decide⟩
theorem miX7_order : Cond.instanceMethod yX7_order ∈ xWd ∧ Cond.selects yX7_order.cls yX7_order yX7_order ∈ xWd := ⟨xWd_in (List.mem_of_getElem? (i := 1293) (by decide +kernel)) rfl, xWd_in (List.mem_of_getElem? (i := 1294) (by decide +kernel)) rfl⟩
theorem wlX7_220 : Cond.methodLink RX7 220 yX7_nextOrder ∈ xWd := xWd_in (List.mem_of_getElem? (i := 1296) (by decide +kernel)) rfl
theorem mdX7_nextOrder : xMd yX7_nextOrder cX7_nextOrder 6 (some .boolean) 0 := ⟨by decide +kernel, xWd_in (List.mem_of_getElem? (i := 1299) (by decide +kernel)) rfl, xWd_in (List.mem_of_getElem? (i := 96) (by decide +kernel)) rfl, by decide +kernel, by decide⟩
theorem miX7_nextOrder : Cond.instanceMethod yX7_nextOrder ∈ xWd ∧ Cond.selects yX7_nextOrder.cls yX7_nextOrder yX7_nextOrder ∈ xWd := ⟨xWd_in (List.mem_of_getElem? (i := 1298) (by decide +kernel)) rfl, xWd_in (List.mem_of_getElem? (i := 71) (by decide +kernel)) rfl⟩
theorem wlL_109 : Cond.methodLink RL 109 yX7_leads ∈ xWd := xWd_in (List.mem_of_getElem? (i := 1300) (by decide +kernel)) rfl
theorem mdX7_leads : xMd yX7_leads cX7_leads 8 (some .int) 3 := ⟨by decide +kernel, xWd_in (List.mem_of_getElem? (i := 1303) (by decide +kernel)) rfl, xWd_in (List.mem_of_getElem? (i := 96) (by decide +kernel)) rfl, by decide +kernel, by decide⟩
theorem miX7_leads : Cond.instanceMethod yX7_leads ∈ xWd ∧ Cond.selects yX7_leads.cls yX7_leads yX7_leads ∈ xWd := ⟨xWd_in (List.mem_of_getElem? (i := 1301) (by decide +kernel)) rfl, xWd_in (List.mem_of_getElem? (i := 1302) (by decide +kernel)) rfl⟩
theorem wlL_113 : Cond.methodLink RL 113 yX7_sets ∈ xWd := xWd_in (List.mem_of_getElem? (i := 1304) (by decide +kernel)) rfl
theorem mdX7_sets : xMd yX7_sets cX7_sets 8 (some .int) 2 := ⟨by decide +kernel, xWd_in (List.mem_of_getElem? (i := 1307) (by decide +kernel)) rfl, xWd_in (List.mem_of_getElem? (i := 96) (by decide +kernel)) rfl, by decide +kernel, by decide⟩
theorem miX7_sets : Cond.instanceMethod yX7_sets ∈ xWd ∧ Cond.selects yX7_sets.cls yX7_sets yX7_sets ∈ xWd := ⟨xWd_in (List.mem_of_getElem? (i := 1305) (by decide +kernel)) rfl, xWd_in (List.mem_of_getElem? (i := 1306) (by decide +kernel)) rfl⟩
theorem wlX7_223 : Cond.methodLink RX7 223 yX7_weightOf ∈ xWd := xWd_in (List.mem_of_getElem? (i := 1308) (by decide +kernel)) rfl
theorem mdX7_weightOf : xMd yX7_weightOf cX7_weightOf 4 (some .int) 1 := ⟨by decide +kernel, xWd_in (List.mem_of_getElem? (i := 1311) (by decide +kernel)) rfl, xWd_in (List.mem_of_getElem? (i := 96) (by decide +kernel)) rfl, by decide +kernel, by decide⟩
theorem miX7_weightOf : Cond.instanceMethod yX7_weightOf ∈ xWd ∧ Cond.selects yX7_weightOf.cls yX7_weightOf yX7_weightOf ∈ xWd := ⟨xWd_in (List.mem_of_getElem? (i := 1310) (by decide +kernel)) rfl, xWd_in (List.mem_of_getElem? (i := 72) (by decide +kernel)) rfl⟩
theorem wlL_117 : Cond.methodLink RL 117 yX7_share ∈ xWd := xWd_in (List.mem_of_getElem? (i := 1312) (by decide +kernel)) rfl
theorem mdX7_share : xMd yX7_share cX7_share 7 (some .int) 2 := ⟨by decide +kernel, xWd_in (List.mem_of_getElem? (i := 1315) (by decide +kernel)) rfl, xWd_in (List.mem_of_getElem? (i := 96) (by decide +kernel)) rfl, by decide +kernel, by decide⟩
theorem miX7_share : Cond.instanceMethod yX7_share ∈ xWd ∧ Cond.selects yX7_share.cls yX7_share yX7_share ∈ xWd := ⟨xWd_in (List.mem_of_getElem? (i := 1313) (by decide +kernel)) rfl, xWd_in (List.mem_of_getElem? (i := 1314) (by decide +kernel)) rfl⟩
theorem wlX7_226 : Cond.methodLink RX7 226 yX7_wentOfAll ∈ xWd := xWd_in (List.mem_of_getElem? (i := 1316) (by decide +kernel)) rfl
theorem mdX7_wentOfAll : xMd yX7_wentOfAll cX7_wentOfAll 3 (some .int) 0 := ⟨by decide +kernel, xWd_in (List.mem_of_getElem? (i := 1319) (by decide +kernel)) rfl, xWd_in (List.mem_of_getElem? (i := 96) (by decide +kernel)) rfl, by decide +kernel, by decide⟩
theorem miX7_wentOfAll : Cond.instanceMethod yX7_wentOfAll ∈ xWd ∧ Cond.selects yX7_wentOfAll.cls yX7_wentOfAll yX7_wentOfAll ∈ xWd := ⟨xWd_in (List.mem_of_getElem? (i := 1318) (by decide +kernel)) rfl, xWd_in (List.mem_of_getElem? (i := 73) (by decide +kernel)) rfl⟩
theorem wlL_121 : Cond.methodLink RL 121 yX7_byTurns ∈ xWd := xWd_in (List.mem_of_getElem? (i := 1320) (by decide +kernel)) rfl
theorem mdX7_byTurns : xMd yX7_byTurns cX7_byTurns 5 (some .int) 2 := ⟨by decide +kernel, xWd_in (List.mem_of_getElem? (i := 1323) (by decide +kernel)) rfl, xWd_in (List.mem_of_getElem? (i := 96) (by decide +kernel)) rfl, by decide +kernel, by decide⟩
theorem miX7_byTurns : Cond.instanceMethod yX7_byTurns ∈ xWd ∧ Cond.selects yX7_byTurns.cls yX7_byTurns yX7_byTurns ∈ xWd := ⟨xWd_in (List.mem_of_getElem? (i := 1321) (by decide +kernel)) rfl, xWd_in (List.mem_of_getElem? (i := 1322) (by decide +kernel)) rfl⟩
theorem wlX7_229 : Cond.methodLink RX7 229 yX7_chosen ∈ xWd := xWd_in (List.mem_of_getElem? (i := 1324) (by decide +kernel)) rfl
theorem mdX7_chosen : xMd yX7_chosen cX7_chosen 6 (some .int) 2 := ⟨by decide +kernel, xWd_in (List.mem_of_getElem? (i := 1327) (by decide +kernel)) rfl, xWd_in (List.mem_of_getElem? (i := 96) (by decide +kernel)) rfl, by decide +kernel, by decide⟩
theorem miX7_chosen : Cond.instanceMethod yX7_chosen ∈ xWd ∧ Cond.selects yX7_chosen.cls yX7_chosen yX7_chosen ∈ xWd := ⟨xWd_in (List.mem_of_getElem? (i := 1326) (by decide +kernel)) rfl, xWd_in (List.mem_of_getElem? (i := 74) (by decide +kernel)) rfl⟩
theorem wlL_125 : Cond.methodLink RL 125 yX7_who ∈ xWd := xWd_in (List.mem_of_getElem? (i := 1328) (by decide +kernel)) rfl
theorem mdX7_who : xMd yX7_who cX7_who 10 (some .int) 5 := ⟨by decide +kernel, xWd_in (List.mem_of_getElem? (i := 1331) (by decide +kernel)) rfl, xWd_in (List.mem_of_getElem? (i := 96) (by decide +kernel)) rfl, by decide +kernel, by decide⟩
theorem miX7_who : Cond.instanceMethod yX7_who ∈ xWd ∧ Cond.selects yX7_who.cls yX7_who yX7_who ∈ xWd := ⟨xWd_in (List.mem_of_getElem? (i := 1329) (by decide +kernel)) rfl, xWd_in (List.mem_of_getElem? (i := 1330) (by decide +kernel)) rfl⟩
theorem wlX7_233 : Cond.methodLink RX7 233 yX7_refuses ∈ xWd := xWd_in (List.mem_of_getElem? (i := 1332) (by decide +kernel)) rfl
theorem mdX7_refuses : xMd yX7_refuses cX7_refuses 4 (some .int) 3 := ⟨by decide +kernel, xWd_in (List.mem_of_getElem? (i := 1335) (by decide +kernel)) rfl, xWd_in (List.mem_of_getElem? (i := 96) (by decide +kernel)) rfl, by decide +kernel, by decide⟩
theorem miX7_refuses : Cond.instanceMethod yX7_refuses ∈ xWd ∧ Cond.selects yX7_refuses.cls yX7_refuses yX7_refuses ∈ xWd := ⟨xWd_in (List.mem_of_getElem? (i := 1334) (by decide +kernel)) rfl, xWd_in (List.mem_of_getElem? (i := 75) (by decide +kernel)) rfl⟩
theorem wlX7_237 : Cond.methodLink RX7 237 yX7_isSo ∈ xWd := xWd_in (List.mem_of_getElem? (i := 1336) (by decide +kernel)) rfl
theorem mdX7_isSo : xMd yX7_isSo cX7_isSo 5 (some .boolean) 2 := ⟨by decide +kernel, xWd_in (List.mem_of_getElem? (i := 1339) (by decide +kernel)) rfl, xWd_in (List.mem_of_getElem? (i := 96) (by decide +kernel)) rfl, by decide +kernel, by decide⟩
theorem miX7_isSo : Cond.instanceMethod yX7_isSo ∈ xWd ∧ Cond.selects yX7_isSo.cls yX7_isSo yX7_isSo ∈ xWd := ⟨xWd_in (List.mem_of_getElem? (i := 1338) (by decide +kernel)) rfl, xWd_in (List.mem_of_getElem? (i := 76) (by decide +kernel)) rfl⟩
theorem wlL_129 : Cond.methodLink RL 129 yX7_weights ∈ xWd := xWd_in (List.mem_of_getElem? (i := 1340) (by decide +kernel)) rfl
theorem mdX7_weights : xMd yX7_weights cX7_weights 10 (some .int) 5 := ⟨by decide +kernel, xWd_in (List.mem_of_getElem? (i := 1343) (by decide +kernel)) rfl, xWd_in (List.mem_of_getElem? (i := 96) (by decide +kernel)) rfl, by decide +kernel, by decide⟩
theorem miX7_weights : Cond.instanceMethod yX7_weights ∈ xWd ∧ Cond.selects yX7_weights.cls yX7_weights yX7_weights ∈ xWd := ⟨xWd_in (List.mem_of_getElem? (i := 1341) (by decide +kernel)) rfl, xWd_in (List.mem_of_getElem? (i := 1342) (by decide +kernel)) rfl⟩
theorem wlL_134 : Cond.methodLink RL 134 yX7_jam ∈ xWd := xWd_in (List.mem_of_getElem? (i := 1344) (by decide +kernel)) rfl
theorem mdX7_jam : xMd yX7_jam cX7_jam 13 (some .long) 4 := ⟨by decide +kernel, xWd_in (List.mem_of_getElem? (i := 1347) (by decide +kernel)) rfl, xWd_in (List.mem_of_getElem? (i := 96) (by decide +kernel)) rfl, by decide +kernel, by decide⟩
theorem miX7_jam : Cond.instanceMethod yX7_jam ∈ xWd ∧ Cond.selects yX7_jam.cls yX7_jam yX7_jam ∈ xWd := ⟨xWd_in (List.mem_of_getElem? (i := 1345) (by decide +kernel)) rfl, xWd_in (List.mem_of_getElem? (i := 1346) (by decide +kernel)) rfl⟩
theorem wjX7_241 : Cond.constantLong RX7 241 (-1000001) ∈ xWd := xWd_in (List.mem_of_getElem? (i := 1348) (by decide +kernel)) rfl
theorem wlX7_243 : Cond.methodLink RX7 243 yX7_common ∈ xWd := xWd_in (List.mem_of_getElem? (i := 1349) (by decide +kernel)) rfl
theorem mdX7_common : xMd yX7_common cX7_common 10 (some .long) 2 := ⟨by decide +kernel, xWd_in (List.mem_of_getElem? (i := 1351) (by decide +kernel)) rfl, xWd_in (List.mem_of_getElem? (i := 96) (by decide +kernel)) rfl, by decide +kernel, by decide⟩
theorem msX7_common : Cond.static yX7_common ∈ xWd := xWd_in (List.mem_of_getElem? (i := 1350) (by decide +kernel)) rfl
theorem wlL_138 : Cond.methodLink RL 138 yX7_drawn ∈ xWd := xWd_in (List.mem_of_getElem? (i := 1352) (by decide +kernel)) rfl
theorem mdX7_drawn : xMd yX7_drawn cX7_drawn 10 (some .int) 3 := ⟨by decide +kernel, xWd_in (List.mem_of_getElem? (i := 1355) (by decide +kernel)) rfl, xWd_in (List.mem_of_getElem? (i := 96) (by decide +kernel)) rfl, by decide +kernel, by decide⟩
theorem miX7_drawn : Cond.instanceMethod yX7_drawn ∈ xWd ∧ Cond.selects yX7_drawn.cls yX7_drawn yX7_drawn ∈ xWd := ⟨xWd_in (List.mem_of_getElem? (i := 1353) (by decide +kernel)) rfl, xWd_in (List.mem_of_getElem? (i := 1354) (by decide +kernel)) rfl⟩
theorem wkX7_247 : Cond.constant RX7 247 999999 ∈ xWd := xWd_in (List.mem_of_getElem? (i := 1356) (by decide +kernel)) rfl
theorem wjX7_248 : Cond.constantLong RX7 248 16807 ∈ xWd := xWd_in (List.mem_of_getElem? (i := 1357) (by decide +kernel)) rfl
theorem wjX7_250 : Cond.constantLong RX7 250 2147483647 ∈ xWd := xWd_in (List.mem_of_getElem? (i := 1358) (by decide +kernel)) rfl
theorem wjX7_252 : Cond.constantLong RX7 252 9 ∈ xWd := xWd_in (List.mem_of_getElem? (i := 1359) (by decide +kernel)) rfl
theorem wjX7_254 : Cond.constantLong RX7 254 3 ∈ xWd := xWd_in (List.mem_of_getElem? (i := 1360) (by decide +kernel)) rfl
theorem wlL_142 : Cond.methodLink RL 142 yX7_image ∈ xWd := xWd_in (List.mem_of_getElem? (i := 1361) (by decide +kernel)) rfl
theorem mdX7_image : xMd yX7_image cX7_image 3 (some .int) 1 := ⟨by decide +kernel, xWd_in (List.mem_of_getElem? (i := 1364) (by decide +kernel)) rfl, xWd_in (List.mem_of_getElem? (i := 96) (by decide +kernel)) rfl, by decide +kernel, by decide⟩
theorem miX7_image : Cond.instanceMethod yX7_image ∈ xWd ∧ Cond.selects yX7_image.cls yX7_image yX7_image ∈ xWd := ⟨xWd_in (List.mem_of_getElem? (i := 1362) (by decide +kernel)) rfl, xWd_in (List.mem_of_getElem? (i := 1363) (by decide +kernel)) rfl⟩
theorem wlL_146 : Cond.methodLink RL 146 yX7_restore ∈ xWd := xWd_in (List.mem_of_getElem? (i := 1365) (by decide +kernel)) rfl
theorem mdX7_restore : xMd yX7_restore cX7_restore 3 (some .int) 1 := ⟨by decide +kernel, xWd_in (List.mem_of_getElem? (i := 1368) (by decide +kernel)) rfl, xWd_in (List.mem_of_getElem? (i := 96) (by decide +kernel)) rfl, by decide +kernel, by decide⟩
theorem miX7_restore : Cond.instanceMethod yX7_restore ∈ xWd ∧ Cond.selects yX7_restore.cls yX7_restore yX7_restore ∈ xWd := ⟨xWd_in (List.mem_of_getElem? (i := 1366) (by decide +kernel)) rfl, xWd_in (List.mem_of_getElem? (i := 1367) (by decide +kernel)) rfl⟩
theorem wlL_150 : Cond.methodLink RL 150 yX7_kind ∈ xWd := xWd_in (List.mem_of_getElem? (i := 1369) (by decide +kernel)) rfl
theorem mdX7_kind : xMd yX7_kind cX7_kind 2 (some .int) 1 := ⟨by decide +kernel, xWd_in (List.mem_of_getElem? (i := 1372) (by decide +kernel)) rfl, xWd_in (List.mem_of_getElem? (i := 96) (by decide +kernel)) rfl, by decide +kernel, by decide⟩
theorem miX7_kind : Cond.instanceMethod yX7_kind ∈ xWd ∧ Cond.selects yX7_kind.cls yX7_kind yX7_kind ∈ xWd := ⟨xWd_in (List.mem_of_getElem? (i := 1370) (by decide +kernel)) rfl, xWd_in (List.mem_of_getElem? (i := 1371) (by decide +kernel)) rfl⟩
theorem wlL_154 : Cond.methodLink RL 154 yX7_as ∈ xWd := xWd_in (List.mem_of_getElem? (i := 1373) (by decide +kernel)) rfl
theorem mdX7_as : xMd yX7_as cX7_as 3 (some .int) 2 := ⟨by decide +kernel, xWd_in (List.mem_of_getElem? (i := 1376) (by decide +kernel)) rfl, xWd_in (List.mem_of_getElem? (i := 96) (by decide +kernel)) rfl, by decide +kernel, by decide⟩
theorem miX7_as : Cond.instanceMethod yX7_as ∈ xWd ∧ Cond.selects yX7_as.cls yX7_as yX7_as ∈ xWd := ⟨xWd_in (List.mem_of_getElem? (i := 1374) (by decide +kernel)) rfl, xWd_in (List.mem_of_getElem? (i := 1375) (by decide +kernel)) rfl⟩
theorem wlX7_256 : Cond.methodLink RX7 256 yX7_isA ∈ xWd := xWd_in (List.mem_of_getElem? (i := 1377) (by decide +kernel)) rfl
theorem mdX7_isA : xMd yX7_isA cX7_isA 4 (some .boolean) 2 := ⟨by decide +kernel, xWd_in (List.mem_of_getElem? (i := 1380) (by decide +kernel)) rfl, xWd_in (List.mem_of_getElem? (i := 96) (by decide +kernel)) rfl, by decide +kernel, by decide⟩
theorem miX7_isA : Cond.instanceMethod yX7_isA ∈ xWd ∧ Cond.selects yX7_isA.cls yX7_isA yX7_isA ∈ xWd := ⟨xWd_in (List.mem_of_getElem? (i := 1379) (by decide +kernel)) rfl, xWd_in (List.mem_of_getElem? (i := 77) (by decide +kernel)) rfl⟩
theorem wlL_158 : Cond.methodLink RL 158 yX7_ask ∈ xWd := xWd_in (List.mem_of_getElem? (i := 1381) (by decide +kernel)) rfl
theorem mdX7_ask : xMd yX7_ask cX7_ask 3 (some .int) 2 := ⟨by decide +kernel, xWd_in (List.mem_of_getElem? (i := 1384) (by decide +kernel)) rfl, xWd_in (List.mem_of_getElem? (i := 96) (by decide +kernel)) rfl, by decide +kernel, by decide⟩
theorem miX7_ask : Cond.instanceMethod yX7_ask ∈ xWd ∧ Cond.selects yX7_ask.cls yX7_ask yX7_ask ∈ xWd := ⟨xWd_in (List.mem_of_getElem? (i := 1382) (by decide +kernel)) rfl, xWd_in (List.mem_of_getElem? (i := 1383) (by decide +kernel)) rfl⟩
theorem wlX7_280 : Cond.methodLink RX7 280 yX7_gateSize ∈ xWd := xWd_in (List.mem_of_getElem? (i := 1385) (by decide +kernel)) rfl
theorem mdX7_gateSize : xMd yX7_gateSize cX7_gateSize 3 (some .int) 1 := ⟨by decide +kernel, xWd_in (List.mem_of_getElem? (i := 1388) (by decide +kernel)) rfl, xWd_in (List.mem_of_getElem? (i := 96) (by decide +kernel)) rfl, by decide +kernel, by decide⟩
theorem miX7_gateSize : Cond.instanceMethod yX7_gateSize ∈ xWd ∧ Cond.selects yX7_gateSize.cls yX7_gateSize yX7_gateSize ∈ xWd := ⟨xWd_in (List.mem_of_getElem? (i := 1387) (by decide +kernel)) rfl, xWd_in (List.mem_of_getElem? (i := 78) (by decide +kernel)) rfl⟩
theorem wlX7_262 : Cond.methodLink RX7 262 yX7_begins ∈ xWd := xWd_in (List.mem_of_getElem? (i := 1389) (by decide +kernel)) rfl
theorem mdX7_begins : xMd yX7_begins cX7_begins 2 none 1 := ⟨by decide +kernel, xWd_in (List.mem_of_getElem? (i := 1392) (by decide +kernel)) rfl, xWd_in (List.mem_of_getElem? (i := 96) (by decide +kernel)) rfl, by decide +kernel, by decide⟩
theorem miX7_begins : Cond.instanceMethod yX7_begins ∈ xWd ∧ Cond.selects yX7_begins.cls yX7_begins yX7_begins ∈ xWd := ⟨xWd_in (List.mem_of_getElem? (i := 1391) (by decide +kernel)) rfl, xWd_in (List.mem_of_getElem? (i := 79) (by decide +kernel)) rfl⟩
theorem wlX7_271 : Cond.methodLink RX7 271 yX7_ten ∈ xWd := xWd_in (List.mem_of_getElem? (i := 1393) (by decide +kernel)) rfl
theorem mdX7_ten : xMd yX7_ten cX7_ten 2 (some .int) 1 := ⟨by decide +kernel, xWd_in (List.mem_of_getElem? (i := 1396) (by decide +kernel)) rfl, xWd_in (List.mem_of_getElem? (i := 96) (by decide +kernel)) rfl, by decide +kernel, by decide⟩
theorem miX7_ten : Cond.instanceMethod yX7_ten ∈ xWd ∧ Cond.selects yX7_ten.cls yX7_ten yX7_ten ∈ xWd := ⟨xWd_in (List.mem_of_getElem? (i := 1395) (by decide +kernel)) rfl, xWd_in (List.mem_of_getElem? (i := 80) (by decide +kernel)) rfl⟩
theorem wlX7_274 : Cond.methodLink RX7 274 yX7_gateMark ∈ xWd := xWd_in (List.mem_of_getElem? (i := 1397) (by decide +kernel)) rfl
theorem mdX7_gateMark : xMd yX7_gateMark cX7_gateMark 2 (some .int) 1 := ⟨by decide +kernel, xWd_in (List.mem_of_getElem? (i := 1400) (by decide +kernel)) rfl, xWd_in (List.mem_of_getElem? (i := 96) (by decide +kernel)) rfl, by decide +kernel, by decide⟩
theorem miX7_gateMark : Cond.instanceMethod yX7_gateMark ∈ xWd ∧ Cond.selects yX7_gateMark.cls yX7_gateMark yX7_gateMark ∈ xWd := ⟨xWd_in (List.mem_of_getElem? (i := 1399) (by decide +kernel)) rfl, xWd_in (List.mem_of_getElem? (i := 81) (by decide +kernel)) rfl⟩
theorem wlX7_268 : Cond.methodLink RX7 268 yX7_twentyOne ∈ xWd := xWd_in (List.mem_of_getElem? (i := 1401) (by decide +kernel)) rfl
theorem mdX7_twentyOne : xMd yX7_twentyOne cX7_twentyOne 2 (some .int) 1 := ⟨by decide +kernel, xWd_in (List.mem_of_getElem? (i := 1404) (by decide +kernel)) rfl, xWd_in (List.mem_of_getElem? (i := 96) (by decide +kernel)) rfl, by decide +kernel, by decide⟩
theorem miX7_twentyOne : Cond.instanceMethod yX7_twentyOne ∈ xWd ∧ Cond.selects yX7_twentyOne.cls yX7_twentyOne yX7_twentyOne ∈ xWd := ⟨xWd_in (List.mem_of_getElem? (i := 1403) (by decide +kernel)) rfl, xWd_in (List.mem_of_getElem? (i := 82) (by decide +kernel)) rfl⟩
theorem wlX7_265 : Cond.methodLink RX7 265 yX7_twenty ∈ xWd := xWd_in (List.mem_of_getElem? (i := 1405) (by decide +kernel)) rfl
theorem mdX7_twenty : xMd yX7_twenty cX7_twenty 2 (some .int) 1 := ⟨by decide +kernel, xWd_in (List.mem_of_getElem? (i := 1408) (by decide +kernel)) rfl, xWd_in (List.mem_of_getElem? (i := 96) (by decide +kernel)) rfl, by decide +kernel, by decide⟩
theorem miX7_twenty : Cond.instanceMethod yX7_twenty ∈ xWd ∧ Cond.selects yX7_twenty.cls yX7_twenty yX7_twenty ∈ xWd := ⟨xWd_in (List.mem_of_getElem? (i := 1407) (by decide +kernel)) rfl, xWd_in (List.mem_of_getElem? (i := 83) (by decide +kernel)) rfl⟩
theorem wlX7_277 : Cond.methodLink RX7 277 yX7_sillSize ∈ xWd := xWd_in (List.mem_of_getElem? (i := 1409) (by decide +kernel)) rfl
theorem mdX7_sillSize : xMd yX7_sillSize cX7_sillSize 3 (some .int) 1 := ⟨by decide +kernel, xWd_in (List.mem_of_getElem? (i := 1412) (by decide +kernel)) rfl, xWd_in (List.mem_of_getElem? (i := 96) (by decide +kernel)) rfl, by decide +kernel, by decide⟩
theorem miX7_sillSize : Cond.instanceMethod yX7_sillSize ∈ xWd ∧ Cond.selects yX7_sillSize.cls yX7_sillSize yX7_sillSize ∈ xWd := ⟨xWd_in (List.mem_of_getElem? (i := 1411) (by decide +kernel)) rfl, xWd_in (List.mem_of_getElem? (i := 84) (by decide +kernel)) rfl⟩
theorem wlX7_283 : Cond.methodLink RX7 283 yX7_sillMark ∈ xWd := xWd_in (List.mem_of_getElem? (i := 1413) (by decide +kernel)) rfl
theorem mdX7_sillMark : xMd yX7_sillMark cX7_sillMark 3 (some .int) 1 := ⟨by decide +kernel, xWd_in (List.mem_of_getElem? (i := 1416) (by decide +kernel)) rfl, xWd_in (List.mem_of_getElem? (i := 96) (by decide +kernel)) rfl, by decide +kernel, by decide⟩
theorem miX7_sillMark : Cond.instanceMethod yX7_sillMark ∈ xWd ∧ Cond.selects yX7_sillMark.cls yX7_sillMark yX7_sillMark ∈ xWd := ⟨xWd_in (List.mem_of_getElem? (i := 1415) (by decide +kernel)) rfl, xWd_in (List.mem_of_getElem? (i := 85) (by decide +kernel)) rfl⟩
theorem wlL_162 : Cond.methodLink RL 162 yX7_trace ∈ xWd := xWd_in (List.mem_of_getElem? (i := 1417) (by decide +kernel)) rfl
theorem mdX7_trace : xMd yX7_trace cX7_trace 2 (some .int) 1 := ⟨by decide +kernel, xWd_in (List.mem_of_getElem? (i := 1420) (by decide +kernel)) rfl, xWd_in (List.mem_of_getElem? (i := 96) (by decide +kernel)) rfl, by decide +kernel, by decide⟩
theorem miX7_trace : Cond.instanceMethod yX7_trace ∈ xWd ∧ Cond.selects yX7_trace.cls yX7_trace yX7_trace ∈ xWd := ⟨xWd_in (List.mem_of_getElem? (i := 1418) (by decide +kernel)) rfl, xWd_in (List.mem_of_getElem? (i := 1419) (by decide +kernel)) rfl⟩
theorem wlL_166 : Cond.methodLink RL 166 yX7_count ∈ xWd := xWd_in (List.mem_of_getElem? (i := 1421) (by decide +kernel)) rfl
theorem mdX7_count : xMd yX7_count cX7_count 2 (some .int) 1 := ⟨by decide +kernel, xWd_in (List.mem_of_getElem? (i := 1424) (by decide +kernel)) rfl, xWd_in (List.mem_of_getElem? (i := 96) (by decide +kernel)) rfl, by decide +kernel, by decide⟩
theorem miX7_count : Cond.instanceMethod yX7_count ∈ xWd ∧ Cond.selects yX7_count.cls yX7_count yX7_count ∈ xWd := ⟨xWd_in (List.mem_of_getElem? (i := 1422) (by decide +kernel)) rfl, xWd_in (List.mem_of_getElem? (i := 1423) (by decide +kernel)) rfl⟩
theorem wlX7_286 : Cond.methodLink RX7 286 yX7_rowsThere ∈ xWd := xWd_in (List.mem_of_getElem? (i := 1425) (by decide +kernel)) rfl
theorem mdX7_rowsThere : xMd yX7_rowsThere cX7_rowsThere 3 (some .int) 0 := ⟨by decide +kernel, xWd_in (List.mem_of_getElem? (i := 1428) (by decide +kernel)) rfl, xWd_in (List.mem_of_getElem? (i := 96) (by decide +kernel)) rfl, by decide +kernel, by decide⟩
theorem miX7_rowsThere : Cond.instanceMethod yX7_rowsThere ∈ xWd ∧ Cond.selects yX7_rowsThere.cls yX7_rowsThere yX7_rowsThere ∈ xWd := ⟨xWd_in (List.mem_of_getElem? (i := 1427) (by decide +kernel)) rfl, xWd_in (List.mem_of_getElem? (i := 86) (by decide +kernel)) rfl⟩
theorem wlL_170 : Cond.methodLink RL 170 yX7_status ∈ xWd := xWd_in (List.mem_of_getElem? (i := 1429) (by decide +kernel)) rfl
theorem mdX7_status : xMd yX7_status cX7_status 1 (some .int) 0 := ⟨by decide +kernel, xWd_in (List.mem_of_getElem? (i := 1432) (by decide +kernel)) rfl, xWd_in (List.mem_of_getElem? (i := 96) (by decide +kernel)) rfl, by decide +kernel, by decide⟩
theorem miX7_status : Cond.instanceMethod yX7_status ∈ xWd ∧ Cond.selects yX7_status.cls yX7_status yX7_status ∈ xWd := ⟨xWd_in (List.mem_of_getElem? (i := 1430) (by decide +kernel)) rfl, xWd_in (List.mem_of_getElem? (i := 1431) (by decide +kernel)) rfl⟩
