theorem in_X0 : ∀ w ∈ u_ws RX0 TX0 3, w ∈ gw := fun w h => by
  have h1 := List.all_eq_true.mp (show (u_ws RX0 TX0 3).all (fun w => decide (w ∈ lw_tbl) && goodWord w) = true by decide +kernel) w h
  simp only [Bool.and_eq_true, decide_eq_true_eq] at h1
  exact gw_mem h1.1 h1.2
theorem in_X1 : ∀ w ∈ u_ws RX1 TX1 5, w ∈ gw := fun w h => by
  have h1 := List.all_eq_true.mp (show (u_ws RX1 TX1 5).all (fun w => decide (w ∈ lw_tbl) && goodWord w) = true by decide +kernel) w h
  simp only [Bool.and_eq_true, decide_eq_true_eq] at h1
  exact gw_mem h1.1 h1.2
theorem in_X2 : ∀ w ∈ u_ws RX2 TX2 5, w ∈ gw := fun w h => by
  have h1 := List.all_eq_true.mp (show (u_ws RX2 TX2 5).all (fun w => decide (w ∈ lw_tbl) && goodWord w) = true by decide +kernel) w h
  simp only [Bool.and_eq_true, decide_eq_true_eq] at h1
  exact gw_mem h1.1 h1.2
theorem in_X3 : ∀ w ∈ u_ws RX3 TX3 6, w ∈ gw := fun w h => by
  have h1 := List.all_eq_true.mp (show (u_ws RX3 TX3 6).all (fun w => decide (w ∈ lw_tbl) && goodWord w) = true by decide +kernel) w h
  simp only [Bool.and_eq_true, decide_eq_true_eq] at h1
  exact gw_mem h1.1 h1.2
theorem in_X4 : ∀ w ∈ u_ws RX4 TX4 2, w ∈ gw := fun w h => by
  have h1 := List.all_eq_true.mp (show (u_ws RX4 TX4 2).all (fun w => decide (w ∈ lw_tbl) && goodWord w) = true by decide +kernel) w h
  simp only [Bool.and_eq_true, decide_eq_true_eq] at h1
  exact gw_mem h1.1 h1.2
theorem in_X5 : ∀ w ∈ u_ws RX5 TX5 11, w ∈ gw := fun w h => by
  have h1 := List.all_eq_true.mp (show (u_ws RX5 TX5 11).all (fun w => decide (w ∈ lw_tbl) && goodWord w) = true by decide +kernel) w h
  simp only [Bool.and_eq_true, decide_eq_true_eq] at h1
  exact gw_mem h1.1 h1.2
theorem in_X6 : ∀ w ∈ u_ws RX6 TX6 26, w ∈ gw := fun w h => by
  have h1 := List.all_eq_true.mp (show (u_ws RX6 TX6 26).all (fun w => decide (w ∈ lw_tbl) && goodWord w) = true by decide +kernel) w h
  simp only [Bool.and_eq_true, decide_eq_true_eq] at h1
  exact gw_mem h1.1 h1.2
set_option maxRecDepth 20000 in
theorem cd_X5_init : Cond.code yX5_init cX5_init 2 none ∈ gw := gw_mem (List.mem_of_getElem? (i := 52) (rfl)) rfl
set_option maxRecDepth 20000 in
theorem cd_X4_init : Cond.code yX4_init cX4_init 1 none ∈ gw := gw_mem (List.mem_of_getElem? (i := 60) (rfl)) rfl
theorem fl_X4_9 : FL RX4 9 4 0 := ⟨_, _, _, rfl, by decide, gw_mem (List.mem_of_getElem? (i := 62) (by decide +kernel)) rfl, in_X4⟩
theorem fl_X4_15 : FL RX4 15 4 1 := ⟨_, _, _, rfl, by decide, gw_mem (List.mem_of_getElem? (i := 63) (by decide +kernel)) rfl, in_X4⟩
theorem fp_X4_15 : FP RX4 15 4 1 .int := ⟨_, _, _, tyX4, rfl, by decide, gw_mem (List.mem_of_getElem? (i := 63) (by decide +kernel)) rfl, in_X4, tyX4_ok, nmX4, rfl, by decide +kernel⟩
theorem fl_X3_31 : FL RX3 31 4 1 := ⟨_, _, _, rfl, by decide, gw_mem (List.mem_of_getElem? (i := 64) (by decide +kernel)) rfl, in_X4⟩
theorem fp_X3_31 : FP RX3 31 4 1 .int := ⟨_, _, _, tyX4, rfl, by decide, gw_mem (List.mem_of_getElem? (i := 64) (by decide +kernel)) rfl, in_X4, tyX4_ok, nmX4, rfl, by decide +kernel⟩
theorem fl_X5_66 : FL RX5 66 4 1 := ⟨_, _, _, rfl, by decide, gw_mem (List.mem_of_getElem? (i := 65) (by decide +kernel)) rfl, in_X4⟩
theorem fp_X5_66 : FP RX5 66 4 1 .int := ⟨_, _, _, tyX4, rfl, by decide, gw_mem (List.mem_of_getElem? (i := 65) (by decide +kernel)) rfl, in_X4, tyX4_ok, nmX4, rfl, by decide +kernel⟩
set_option maxRecDepth 20000 in
theorem cd_X3_init : Cond.code yX3_init cX3_init 1 none ∈ gw := gw_mem (List.mem_of_getElem? (i := 76) (rfl)) rfl
theorem fl_X3_9 : FL RX3 9 3 0 := ⟨_, _, _, rfl, by decide, gw_mem (List.mem_of_getElem? (i := 78) (by decide +kernel)) rfl, in_X3⟩
theorem fl_X5_91 : FL RX5 91 3 0 := ⟨_, _, _, rfl, by decide, gw_mem (List.mem_of_getElem? (i := 79) (by decide +kernel)) rfl, in_X3⟩
theorem fl_X3_15 : FL RX3 15 3 1 := ⟨_, _, _, rfl, by decide, gw_mem (List.mem_of_getElem? (i := 80) (by decide +kernel)) rfl, in_X3⟩
theorem fl_X5_94 : FL RX5 94 3 1 := ⟨_, _, _, rfl, by decide, gw_mem (List.mem_of_getElem? (i := 81) (by decide +kernel)) rfl, in_X3⟩
theorem fl_X3_18 : FL RX3 18 3 2 := ⟨_, _, _, rfl, by decide, gw_mem (List.mem_of_getElem? (i := 82) (by decide +kernel)) rfl, in_X3⟩
theorem fl_X5_97 : FL RX5 97 3 2 := ⟨_, _, _, rfl, by decide, gw_mem (List.mem_of_getElem? (i := 83) (by decide +kernel)) rfl, in_X3⟩
theorem fl_X3_21 : FL RX3 21 3 3 := ⟨_, _, _, rfl, by decide, gw_mem (List.mem_of_getElem? (i := 84) (by decide +kernel)) rfl, in_X3⟩
theorem fl_X5_107 : FL RX5 107 3 3 := ⟨_, _, _, rfl, by decide, gw_mem (List.mem_of_getElem? (i := 85) (by decide +kernel)) rfl, in_X3⟩
theorem fl_X3_24 : FL RX3 24 3 4 := ⟨_, _, _, rfl, by decide, gw_mem (List.mem_of_getElem? (i := 86) (by decide +kernel)) rfl, in_X3⟩
theorem fp_X3_24 : FP RX3 24 3 4 .int := ⟨_, _, _, tyX3, rfl, by decide, gw_mem (List.mem_of_getElem? (i := 86) (by decide +kernel)) rfl, in_X3, tyX3_ok, nmX3, rfl, by decide +kernel⟩
theorem fl_X5_82 : FL RX5 82 3 4 := ⟨_, _, _, rfl, by decide, gw_mem (List.mem_of_getElem? (i := 87) (by decide +kernel)) rfl, in_X3⟩
theorem fp_X5_82 : FP RX5 82 3 4 .int := ⟨_, _, _, tyX3, rfl, by decide, gw_mem (List.mem_of_getElem? (i := 87) (by decide +kernel)) rfl, in_X3, tyX3_ok, nmX3, rfl, by decide +kernel⟩
theorem fl_X3_28 : FL RX3 28 3 5 := ⟨_, _, _, rfl, by decide, gw_mem (List.mem_of_getElem? (i := 88) (by decide +kernel)) rfl, in_X3⟩
theorem fp_X3_28 : FP RX3 28 3 5 .int := ⟨_, _, _, tyX3, rfl, by decide, gw_mem (List.mem_of_getElem? (i := 88) (by decide +kernel)) rfl, in_X3, tyX3_ok, nmX3, rfl, by decide +kernel⟩
theorem fl_X5_85 : FL RX5 85 3 5 := ⟨_, _, _, rfl, by decide, gw_mem (List.mem_of_getElem? (i := 89) (by decide +kernel)) rfl, in_X3⟩
theorem fp_X5_85 : FP RX5 85 3 5 .int := ⟨_, _, _, tyX3, rfl, by decide, gw_mem (List.mem_of_getElem? (i := 89) (by decide +kernel)) rfl, in_X3, tyX3_ok, nmX3, rfl, by decide +kernel⟩
theorem fl_X1_43 : FL RX1 43 3 5 := ⟨_, _, _, rfl, by decide, gw_mem (List.mem_of_getElem? (i := 90) (by decide +kernel)) rfl, in_X3⟩
theorem fp_X1_43 : FP RX1 43 3 5 .int := ⟨_, _, _, tyX3, rfl, by decide, gw_mem (List.mem_of_getElem? (i := 90) (by decide +kernel)) rfl, in_X3, tyX3_ok, nmX3, rfl, by decide +kernel⟩
set_option maxRecDepth 20000 in
theorem cd_X1_init : Cond.code yX1_init cX1_init 1 none ∈ gw := gw_mem (List.mem_of_getElem? (i := 108) (rfl)) rfl
theorem fl_X1_18 : FL RX1 18 1 0 := ⟨_, _, _, rfl, by decide, gw_mem (List.mem_of_getElem? (i := 110) (by decide +kernel)) rfl, in_X1⟩
theorem fp_X1_18 : FP RX1 18 1 0 .int := ⟨_, _, _, tyX1, rfl, by decide, gw_mem (List.mem_of_getElem? (i := 110) (by decide +kernel)) rfl, in_X1, tyX1_ok, nmX1, rfl, by decide +kernel⟩
theorem fl_X5_113 : FL RX5 113 1 0 := ⟨_, _, _, rfl, by decide, gw_mem (List.mem_of_getElem? (i := 111) (by decide +kernel)) rfl, in_X1⟩
theorem fp_X5_113 : FP RX5 113 1 0 .int := ⟨_, _, _, tyX1, rfl, by decide, gw_mem (List.mem_of_getElem? (i := 111) (by decide +kernel)) rfl, in_X1, tyX1_ok, nmX1, rfl, by decide +kernel⟩
theorem fl_X1_22 : FL RX1 22 1 1 := ⟨_, _, _, rfl, by decide, gw_mem (List.mem_of_getElem? (i := 112) (by decide +kernel)) rfl, in_X1⟩
theorem fp_X1_22 : FP RX1 22 1 1 .int := ⟨_, _, _, tyX1, rfl, by decide, gw_mem (List.mem_of_getElem? (i := 112) (by decide +kernel)) rfl, in_X1, tyX1_ok, nmX1, rfl, by decide +kernel⟩
theorem fl_X5_120 : FL RX5 120 1 1 := ⟨_, _, _, rfl, by decide, gw_mem (List.mem_of_getElem? (i := 113) (by decide +kernel)) rfl, in_X1⟩
theorem fp_X5_120 : FP RX5 120 1 1 .int := ⟨_, _, _, tyX1, rfl, by decide, gw_mem (List.mem_of_getElem? (i := 113) (by decide +kernel)) rfl, in_X1, tyX1_ok, nmX1, rfl, by decide +kernel⟩
theorem fl_X1_25 : FL RX1 25 1 2 := ⟨_, _, _, rfl, by decide, gw_mem (List.mem_of_getElem? (i := 114) (by decide +kernel)) rfl, in_X1⟩
theorem fp_X1_25 : FP RX1 25 1 2 .int := ⟨_, _, _, tyX1, rfl, by decide, gw_mem (List.mem_of_getElem? (i := 114) (by decide +kernel)) rfl, in_X1, tyX1_ok, nmX1, rfl, by decide +kernel⟩
theorem fl_X1_9 : FL RX1 9 1 3 := ⟨_, _, _, rfl, by decide, gw_mem (List.mem_of_getElem? (i := 115) (by decide +kernel)) rfl, in_X1⟩
theorem fp_X1_9 : FP RX1 9 1 3 .boolean := ⟨_, _, _, tyX1, rfl, by decide, gw_mem (List.mem_of_getElem? (i := 115) (by decide +kernel)) rfl, in_X1, tyX1_ok, nmX1, rfl, by decide +kernel⟩
theorem fl_X5_153 : FL RX5 153 1 3 := ⟨_, _, _, rfl, by decide, gw_mem (List.mem_of_getElem? (i := 116) (by decide +kernel)) rfl, in_X1⟩
theorem fp_X5_153 : FP RX5 153 1 3 .boolean := ⟨_, _, _, tyX1, rfl, by decide, gw_mem (List.mem_of_getElem? (i := 116) (by decide +kernel)) rfl, in_X1, tyX1_ok, nmX1, rfl, by decide +kernel⟩
theorem fl_X1_15 : FL RX1 15 1 4 := ⟨_, _, _, rfl, by decide, gw_mem (List.mem_of_getElem? (i := 117) (by decide +kernel)) rfl, in_X1⟩
theorem fp_X1_15 : FP RX1 15 1 4 .boolean := ⟨_, _, _, tyX1, rfl, by decide, gw_mem (List.mem_of_getElem? (i := 117) (by decide +kernel)) rfl, in_X1, tyX1_ok, nmX1, rfl, by decide +kernel⟩
theorem fl_X5_157 : FL RX5 157 1 4 := ⟨_, _, _, rfl, by decide, gw_mem (List.mem_of_getElem? (i := 118) (by decide +kernel)) rfl, in_X1⟩
theorem fp_X5_157 : FP RX5 157 1 4 .boolean := ⟨_, _, _, tyX1, rfl, by decide, gw_mem (List.mem_of_getElem? (i := 118) (by decide +kernel)) rfl, in_X1, tyX1_ok, nmX1, rfl, by decide +kernel⟩
set_option maxRecDepth 20000 in
theorem cd_X0_init : Cond.code yX0_init cX0_init 2 none ∈ gw := gw_mem (List.mem_of_getElem? (i := 134) (rfl)) rfl
theorem fl_X0_11 : FL RX0 11 0 0 := ⟨_, _, _, rfl, by decide, gw_mem (List.mem_of_getElem? (i := 139) (by decide +kernel)) rfl, in_X0⟩
theorem fl_X0_22 : FL RX0 22 0 1 := ⟨_, _, _, rfl, by decide, gw_mem (List.mem_of_getElem? (i := 140) (by decide +kernel)) rfl, in_X0⟩
theorem fp_X0_22 : FP RX0 22 0 1 .int := ⟨_, _, _, tyX0, rfl, by decide, gw_mem (List.mem_of_getElem? (i := 140) (by decide +kernel)) rfl, in_X0, tyX0_ok, nmX0, rfl, by decide +kernel⟩
theorem fl_X0_18 : FL RX0 18 0 2 := ⟨_, _, _, rfl, by decide, gw_mem (List.mem_of_getElem? (i := 141) (by decide +kernel)) rfl, in_X0⟩
theorem fp_X0_18 : FP RX0 18 0 2 .int := ⟨_, _, _, tyX0, rfl, by decide, gw_mem (List.mem_of_getElem? (i := 141) (by decide +kernel)) rfl, in_X0, tyX0_ok, nmX0, rfl, by decide +kernel⟩
theorem fl_X5_160 : FL RX5 160 0 2 := ⟨_, _, _, rfl, by decide, gw_mem (List.mem_of_getElem? (i := 142) (by decide +kernel)) rfl, in_X0⟩
theorem fp_X5_160 : FP RX5 160 0 2 .int := ⟨_, _, _, tyX0, rfl, by decide, gw_mem (List.mem_of_getElem? (i := 142) (by decide +kernel)) rfl, in_X0, tyX0_ok, nmX0, rfl, by decide +kernel⟩
set_option maxRecDepth 20000 in
theorem cd_X2_init : Cond.code yX2_init cX2_init 1 none ∈ gw := gw_mem (List.mem_of_getElem? (i := 154) (rfl)) rfl
theorem fl_X2_9 : FL RX2 9 2 0 := ⟨_, _, _, rfl, by decide, gw_mem (List.mem_of_getElem? (i := 156) (by decide +kernel)) rfl, in_X2⟩
theorem fl_X2_15 : FL RX2 15 2 1 := ⟨_, _, _, rfl, by decide, gw_mem (List.mem_of_getElem? (i := 157) (by decide +kernel)) rfl, in_X2⟩
theorem fl_X2_18 : FL RX2 18 2 2 := ⟨_, _, _, rfl, by decide, gw_mem (List.mem_of_getElem? (i := 158) (by decide +kernel)) rfl, in_X2⟩
theorem fl_X2_22 : FL RX2 22 2 3 := ⟨_, _, _, rfl, by decide, gw_mem (List.mem_of_getElem? (i := 159) (by decide +kernel)) rfl, in_X2⟩
theorem fl_X2_25 : FL RX2 25 2 4 := ⟨_, _, _, rfl, by decide, gw_mem (List.mem_of_getElem? (i := 160) (by decide +kernel)) rfl, in_X2⟩
theorem fp_X2_25 : FP RX2 25 2 4 .int := ⟨_, _, _, tyX2, rfl, by decide, gw_mem (List.mem_of_getElem? (i := 160) (by decide +kernel)) rfl, in_X2, tyX2_ok, nmX2, rfl, by decide +kernel⟩
theorem fl_X5_202 : FL RX5 202 2 4 := ⟨_, _, _, rfl, by decide, gw_mem (List.mem_of_getElem? (i := 161) (by decide +kernel)) rfl, in_X2⟩
theorem fp_X5_202 : FP RX5 202 2 4 .int := ⟨_, _, _, tyX2, rfl, by decide, gw_mem (List.mem_of_getElem? (i := 161) (by decide +kernel)) rfl, in_X2, tyX2_ok, nmX2, rfl, by decide +kernel⟩
theorem fl_X5_10 : FL RX5 10 5 0 := ⟨_, _, _, rfl, by decide, gw_mem (List.mem_of_getElem? (i := 174) (by decide +kernel)) rfl, in_X5⟩
theorem fl_X5_19 : FL RX5 19 5 1 := ⟨_, _, _, rfl, by decide, gw_mem (List.mem_of_getElem? (i := 175) (by decide +kernel)) rfl, in_X5⟩
theorem fl_X5_26 : FL RX5 26 5 2 := ⟨_, _, _, rfl, by decide, gw_mem (List.mem_of_getElem? (i := 176) (by decide +kernel)) rfl, in_X5⟩
theorem fl_X5_33 : FL RX5 33 5 3 := ⟨_, _, _, rfl, by decide, gw_mem (List.mem_of_getElem? (i := 177) (by decide +kernel)) rfl, in_X5⟩
theorem fl_X5_40 : FL RX5 40 5 4 := ⟨_, _, _, rfl, by decide, gw_mem (List.mem_of_getElem? (i := 178) (by decide +kernel)) rfl, in_X5⟩
theorem fl_X5_44 : FL RX5 44 5 5 := ⟨_, _, _, rfl, by decide, gw_mem (List.mem_of_getElem? (i := 179) (by decide +kernel)) rfl, in_X5⟩
theorem fl_X5_48 : FL RX5 48 5 6 := ⟨_, _, _, rfl, by decide, gw_mem (List.mem_of_getElem? (i := 180) (by decide +kernel)) rfl, in_X5⟩
theorem fl_X5_236 : FL RX5 236 5 7 := ⟨_, _, _, rfl, by decide, gw_mem (List.mem_of_getElem? (i := 181) (by decide +kernel)) rfl, in_X5⟩
theorem fp_X5_236 : FP RX5 236 5 7 .long := ⟨_, _, _, tyX5, rfl, by decide, gw_mem (List.mem_of_getElem? (i := 181) (by decide +kernel)) rfl, in_X5, tyX5_ok, nmX5, rfl, by decide +kernel⟩
theorem fl_X5_52 : FL RX5 52 5 8 := ⟨_, _, _, rfl, by decide, gw_mem (List.mem_of_getElem? (i := 182) (by decide +kernel)) rfl, in_X5⟩
theorem fl_X5_55 : FL RX5 55 5 9 := ⟨_, _, _, rfl, by decide, gw_mem (List.mem_of_getElem? (i := 183) (by decide +kernel)) rfl, in_X5⟩
theorem fl_X5_59 : FL RX5 59 5 10 := ⟨_, _, _, rfl, by decide, gw_mem (List.mem_of_getElem? (i := 184) (by decide +kernel)) rfl, in_X5⟩
set_option maxRecDepth 20000 in
theorem cd_X5_write : Cond.code yX5_write cX5_write 2 (some .int) ∈ gw := gw_mem (List.mem_of_getElem? (i := 211) (rfl)) rfl
set_option maxRecDepth 20000 in
theorem cd_X4_append : Cond.code yX4_append cX4_append 2 (some .boolean) ∈ gw := gw_mem (List.mem_of_getElem? (i := 215) (rfl)) rfl
set_option maxRecDepth 20000 in
theorem cd_X5_wipe : Cond.code yX5_wipe cX5_wipe 2 (some .int) ∈ gw := gw_mem (List.mem_of_getElem? (i := 219) (rfl)) rfl
set_option maxRecDepth 20000 in
theorem cd_X5_fault : Cond.code yX5_fault cX5_fault 1 (some .int) ∈ gw := gw_mem (List.mem_of_getElem? (i := 223) (rfl)) rfl
set_option maxRecDepth 20000 in
theorem cd_X4_firstFault : Cond.code yX4_firstFault cX4_firstFault 7 (some .int) ∈ gw := gw_mem (List.mem_of_getElem? (i := 227) (rfl)) rfl
set_option maxRecDepth 20000 in
theorem cd_X4_letterAt : Cond.code yX4_letterAt cX4_letterAt 2 (some .int) ∈ gw := gw_mem (List.mem_of_getElem? (i := 231) (rfl)) rfl
set_option maxRecDepth 20000 in
theorem cd_X4_readerFault : Cond.code yX4_readerFault cX4_readerFault 4 (some .int) ∈ gw := gw_mem (List.mem_of_getElem? (i := 235) (rfl)) rfl
set_option maxRecDepth 20000 in
theorem cd_X4_figureFault : Cond.code yX4_figureFault cX4_figureFault 5 (some .int) ∈ gw := gw_mem (List.mem_of_getElem? (i := 239) (rfl)) rfl
set_option maxRecDepth 20000 in
theorem cd_X5_room : Cond.code yX5_room cX5_room 2 (some .int) ∈ gw := gw_mem (List.mem_of_getElem? (i := 243) (rfl)) rfl
set_option maxRecDepth 20000 in
theorem cd_X3_make : Cond.code yX3_make cX3_make 3 none ∈ gw := gw_mem (List.mem_of_getElem? (i := 247) (rfl)) rfl
set_option maxRecDepth 20000 in
theorem cd_X3_addReader : Cond.code yX3_addReader cX3_addReader 3 none ∈ gw := gw_mem (List.mem_of_getElem? (i := 252) (rfl)) rfl
set_option maxRecDepth 20000 in
theorem cd_X4_figureAt : Cond.code yX4_figureAt cX4_figureAt 2 (some .int) ∈ gw := gw_mem (List.mem_of_getElem? (i := 256) (rfl)) rfl
set_option maxRecDepth 20000 in
theorem cd_X3_addSample : Cond.code yX3_addSample cX3_addSample 2 none ∈ gw := gw_mem (List.mem_of_getElem? (i := 260) (rfl)) rfl
set_option maxRecDepth 20000 in
theorem cd_X1_clear : Cond.code yX1_clear cX1_clear 1 none ∈ gw := gw_mem (List.mem_of_getElem? (i := 264) (rfl)) rfl
set_option maxRecDepth 20000 in
theorem cd_X0_clear : Cond.code yX0_clear cX0_clear 1 none ∈ gw := gw_mem (List.mem_of_getElem? (i := 268) (rfl)) rfl
set_option maxRecDepth 20000 in
theorem cd_X5_reader : Cond.code yX5_reader cX5_reader 3 (some .int) ∈ gw := gw_mem (List.mem_of_getElem? (i := 272) (rfl)) rfl
set_option maxRecDepth 20000 in
theorem cd_X3_hasReader : Cond.code yX3_hasReader cX3_hasReader 2 (some .boolean) ∈ gw := gw_mem (List.mem_of_getElem? (i := 276) (rfl)) rfl
set_option maxRecDepth 20000 in
theorem cd_X1_readingsOf : Cond.code yX1_readingsOf cX1_readingsOf 2 (some .int) ∈ gw := gw_mem (List.mem_of_getElem? (i := 280) (rfl)) rfl
set_option maxRecDepth 20000 in
theorem cd_X5_sample : Cond.code yX5_sample cX5_sample 3 (some .int) ∈ gw := gw_mem (List.mem_of_getElem? (i := 284) (rfl)) rfl
set_option maxRecDepth 20000 in
theorem cd_X3_hasSample : Cond.code yX3_hasSample cX3_hasSample 2 (some .boolean) ∈ gw := gw_mem (List.mem_of_getElem? (i := 288) (rfl)) rfl
set_option maxRecDepth 20000 in
theorem cd_X5_sayingYes : Cond.code yX5_sayingYes cX5_sayingYes 2 (some .int) ∈ gw := gw_mem (List.mem_of_getElem? (i := 292) (rfl)) rfl
set_option maxRecDepth 20000 in
theorem cd_X5_sayingYesIf : Cond.code yX5_sayingYesIf cX5_sayingYesIf 7 (some .int) ∈ gw := gw_mem (List.mem_of_getElem? (i := 296) (rfl)) rfl
set_option maxRecDepth 20000 in
theorem cd_X3_seen : Cond.code yX3_seen cX3_seen 8 (some .int) ∈ gw := gw_mem (List.mem_of_getElem? (i := 300) (rfl)) rfl
set_option maxRecDepth 20000 in
theorem cd_X3_hasBoth : Cond.code yX3_hasBoth cX3_hasBoth 3 (some .boolean) ∈ gw := gw_mem (List.mem_of_getElem? (i := 304) (rfl)) rfl
set_option maxRecDepth 20000 in
theorem cd_J9_max_7cf53 : Cond.code yJ9_max_7cf53 cJ9_max_7cf53 2 (some .int) ∈ gw := gw_mem (List.mem_of_getElem? (i := 309) (rfl)) rfl
set_option maxRecDepth 20000 in
theorem cd_X3_saysYes : Cond.code yX3_saysYes cX3_saysYes 3 (some .boolean) ∈ gw := gw_mem (List.mem_of_getElem? (i := 313) (rfl)) rfl
set_option maxRecDepth 20000 in
theorem cd_X1_printers : Cond.code yX1_printers cX1_printers 4 (some .int) ∈ gw := gw_mem (List.mem_of_getElem? (i := 316) (rfl)) rfl
set_option maxRecDepth 20000 in
theorem cd_X1_paper : Cond.code yX1_paper cX1_paper 2 (some .int) ∈ gw := gw_mem (List.mem_of_getElem? (i := 319) (rfl)) rfl
set_option maxRecDepth 20000 in
theorem cd_X5_bright : Cond.code yX5_bright cX5_bright 3 (some .int) ∈ gw := gw_mem (List.mem_of_getElem? (i := 323) (rfl)) rfl
set_option maxRecDepth 20000 in
theorem cd_X1_seenBy : Cond.code yX1_seenBy cX1_seenBy 4 (some .int) ∈ gw := gw_mem (List.mem_of_getElem? (i := 328) (rfl)) rfl
set_option maxRecDepth 20000 in
theorem cd_X3_expectsOf : Cond.code yX3_expectsOf cX3_expectsOf 2 (some .int) ∈ gw := gw_mem (List.mem_of_getElem? (i := 332) (rfl)) rfl
set_option maxRecDepth 20000 in
theorem cd_X5_read : Cond.code yX5_read cX5_read 3 (some .int) ∈ gw := gw_mem (List.mem_of_getElem? (i := 338) (rfl)) rfl
set_option maxRecDepth 20000 in
theorem cd_X0_remember : Cond.code yX0_remember cX0_remember 2 none ∈ gw := gw_mem (List.mem_of_getElem? (i := 342) (rfl)) rfl
set_option maxRecDepth 20000 in
theorem cd_X1_copyFrom : Cond.code yX1_copyFrom cX1_copyFrom 2 none ∈ gw := gw_mem (List.mem_of_getElem? (i := 346) (rfl)) rfl
set_option maxRecDepth 20000 in
theorem cd_J9_min_7cf53 : Cond.code yJ9_min_7cf53 cJ9_min_7cf53 2 (some .int) ∈ gw := gw_mem (List.mem_of_getElem? (i := 349) (rfl)) rfl
set_option maxRecDepth 20000 in
theorem cd_X1_takeReading : Cond.code yX1_takeReading cX1_takeReading 6 (some .boolean) ∈ gw := gw_mem (List.mem_of_getElem? (i := 353) (rfl)) rfl
set_option maxRecDepth 20000 in
theorem cd_X1_setReadings : Cond.code yX1_setReadings cX1_setReadings 3 none ∈ gw := gw_mem (List.mem_of_getElem? (i := 360) (rfl)) rfl
set_option maxRecDepth 20000 in
theorem cd_X1_dropPaper : Cond.code yX1_dropPaper cX1_dropPaper 2 none ∈ gw := gw_mem (List.mem_of_getElem? (i := 364) (rfl)) rfl
set_option maxRecDepth 20000 in
theorem cd_X5_rest : Cond.code yX5_rest cX5_rest 3 (some .int) ∈ gw := gw_mem (List.mem_of_getElem? (i := 368) (rfl)) rfl
set_option maxRecDepth 20000 in
theorem cd_X5_withdraw : Cond.code yX5_withdraw cX5_withdraw 5 (some .int) ∈ gw := gw_mem (List.mem_of_getElem? (i := 373) (rfl)) rfl
set_option maxRecDepth 20000 in
theorem cd_X1_allPapers : Cond.code yX1_allPapers cX1_allPapers 1 (some .int) ∈ gw := gw_mem (List.mem_of_getElem? (i := 378) (rfl)) rfl
set_option maxRecDepth 20000 in
theorem cd_X5_prism : Cond.code yX5_prism cX5_prism 1 (some .int) ∈ gw := gw_mem (List.mem_of_getElem? (i := 383) (rfl)) rfl
set_option maxRecDepth 20000 in
theorem cd_X5_tell : Cond.code yX5_tell cX5_tell 1 (some .int) ∈ gw := gw_mem (List.mem_of_getElem? (i := 387) (rfl)) rfl
set_option maxRecDepth 20000 in
theorem cd_X5_undo : Cond.code yX5_undo cX5_undo 1 (some .int) ∈ gw := gw_mem (List.mem_of_getElem? (i := 391) (rfl)) rfl
set_option maxRecDepth 20000 in
theorem cd_X0_takeBack : Cond.code yX0_takeBack cX0_takeBack 2 none ∈ gw := gw_mem (List.mem_of_getElem? (i := 395) (rfl)) rfl
set_option maxRecDepth 20000 in
theorem cd_X5_fooled : Cond.code yX5_fooled cX5_fooled 2 (some .int) ∈ gw := gw_mem (List.mem_of_getElem? (i := 399) (rfl)) rfl
set_option maxRecDepth 20000 in
theorem cd_X5_truly : Cond.code yX5_truly cX5_truly 2 (some .int) ∈ gw := gw_mem (List.mem_of_getElem? (i := 403) (rfl)) rfl
set_option maxRecDepth 20000 in
theorem cd_X5_cover : Cond.code yX5_cover cX5_cover 5 (some .int) ∈ gw := gw_mem (List.mem_of_getElem? (i := 407) (rfl)) rfl
set_option maxRecDepth 20000 in
theorem cd_X3_allReaders : Cond.code yX3_allReaders cX3_allReaders 1 (some .int) ∈ gw := gw_mem (List.mem_of_getElem? (i := 411) (rfl)) rfl
set_option maxRecDepth 20000 in
theorem cd_X3_isBright : Cond.code yX3_isBright cX3_isBright 2 (some .boolean) ∈ gw := gw_mem (List.mem_of_getElem? (i := 415) (rfl)) rfl
set_option maxRecDepth 20000 in
theorem cd_J6_bitCount_0f7a4 : Cond.code yJ6_bitCount_0f7a4 cJ6_bitCount_0f7a4 1 (some .int) ∈ gw := gw_mem (List.mem_of_getElem? (i := 418) (rfl)) rfl
theorem cs_J6_265 : Cond.constant RJ6 265 1431655765 ∈ gw := gw_mem (List.mem_of_getElem? (i := 419) (by decide +kernel)) rfl
theorem cs_J6_266 : Cond.constant RJ6 266 858993459 ∈ gw := gw_mem (List.mem_of_getElem? (i := 420) (by decide +kernel)) rfl
theorem cs_J6_267 : Cond.constant RJ6 267 252645135 ∈ gw := gw_mem (List.mem_of_getElem? (i := 421) (by decide +kernel)) rfl
set_option maxRecDepth 20000 in
theorem cd_X5_seesAllBright : Cond.code yX5_seesAllBright cX5_seesAllBright 3 (some .boolean) ∈ gw := gw_mem (List.mem_of_getElem? (i := 425) (rfl)) rfl
set_option maxRecDepth 20000 in
theorem cd_X5_wrong : Cond.code yX5_wrong cX5_wrong 6 (some .int) ∈ gw := gw_mem (List.mem_of_getElem? (i := 429) (rfl)) rfl
set_option maxRecDepth 20000 in
theorem cd_X1_onSample : Cond.code yX1_onSample cX1_onSample 2 (some .int) ∈ gw := gw_mem (List.mem_of_getElem? (i := 432) (rfl)) rfl
theorem cs_X1_28 : Cond.constant RX1 28 69905 ∈ gw := gw_mem (List.mem_of_getElem? (i := 433) (by decide +kernel)) rfl
set_option maxRecDepth 20000 in
theorem cd_X5_judge : Cond.code yX5_judge cX5_judge 5 (some .int) ∈ gw := gw_mem (List.mem_of_getElem? (i := 437) (rfl)) rfl
set_option maxRecDepth 20000 in
theorem cd_X5_hasFigures : Cond.code yX5_hasFigures cX5_hasFigures 2 (some .boolean) ∈ gw := gw_mem (List.mem_of_getElem? (i := 440) (rfl)) rfl
theorem fs_X5_281 : Cond.fieldLink RX5 281 "NewRays" "TENS" "[I" ∈ gw := gw_mem (List.mem_of_getElem? (i := 441) (by decide +kernel)) rfl
set_option maxRecDepth 20000 in
theorem cd_X5_figure : Cond.code yX5_figure cX5_figure 2 (some .int) ∈ gw := gw_mem (List.mem_of_getElem? (i := 446) (rfl)) rfl
set_option maxRecDepth 20000 in
theorem cd_X5_standsOnTrial : Cond.code yX5_standsOnTrial cX5_standsOnTrial 3 (some .boolean) ∈ gw := gw_mem (List.mem_of_getElem? (i := 450) (rfl)) rfl
set_option maxRecDepth 20000 in
theorem cd_X5_hear : Cond.code yX5_hear cX5_hear 5 (some .int) ∈ gw := gw_mem (List.mem_of_getElem? (i := 454) (rfl)) rfl
set_option maxRecDepth 20000 in
theorem cd_X2_append : Cond.code yX2_append cX2_append 5 (some .boolean) ∈ gw := gw_mem (List.mem_of_getElem? (i := 458) (rfl)) rfl
set_option maxRecDepth 20000 in
theorem cd_X5_unhear : Cond.code yX5_unhear cX5_unhear 2 (some .int) ∈ gw := gw_mem (List.mem_of_getElem? (i := 462) (rfl)) rfl
set_option maxRecDepth 20000 in
theorem cd_X5_expect : Cond.code yX5_expect cX5_expect 4 (some .int) ∈ gw := gw_mem (List.mem_of_getElem? (i := 466) (rfl)) rfl
set_option maxRecDepth 20000 in
theorem cd_X2_agrees : Cond.code yX2_agrees cX2_agrees 6 (some .boolean) ∈ gw := gw_mem (List.mem_of_getElem? (i := 470) (rfl)) rfl
set_option maxRecDepth 20000 in
theorem cd_X5_gone : Cond.code yX5_gone cX5_gone 7 (some .int) ∈ gw := gw_mem (List.mem_of_getElem? (i := 477) (rfl)) rfl
set_option maxRecDepth 20000 in
theorem cd_X5_saidIfGoneFrom : Cond.code yX5_saidIfGoneFrom cX5_saidIfGoneFrom 9 (some .int) ∈ gw := gw_mem (List.mem_of_getElem? (i := 481) (rfl)) rfl
set_option maxRecDepth 20000 in
theorem cd_X5_share : Cond.code yX5_share cX5_share 6 (some .int) ∈ gw := gw_mem (List.mem_of_getElem? (i := 486) (rfl)) rfl
set_option maxRecDepth 20000 in
theorem cd_X5_sayingRight : Cond.code yX5_sayingRight cX5_sayingRight 3 (some .int) ∈ gw := gw_mem (List.mem_of_getElem? (i := 490) (rfl)) rfl
set_option maxRecDepth 20000 in
theorem cd_X5_ordersBehind : Cond.code yX5_ordersBehind cX5_ordersBehind 3 (some .int) ∈ gw := gw_mem (List.mem_of_getElem? (i := 494) (rfl)) rfl
set_option maxRecDepth 20000 in
theorem cd_X5_factorial : Cond.code yX5_factorial cX5_factorial 1 (some .int) ∈ gw := gw_mem (List.mem_of_getElem? (i := 497) (rfl)) rfl
theorem fs_X5_270 : Cond.fieldLink RX5 270 "NewRays" "FACTORIALS" "[I" ∈ gw := gw_mem (List.mem_of_getElem? (i := 498) (by decide +kernel)) rfl
set_option maxRecDepth 20000 in
theorem cd_X5_rightByMost : Cond.code yX5_rightByMost cX5_rightByMost 4 (some .int) ∈ gw := gw_mem (List.mem_of_getElem? (i := 503) (rfl)) rfl
set_option maxRecDepth 20000 in
theorem cd_X5_fraction : Cond.code yX5_fraction cX5_fraction 4 (some .int) ∈ gw := gw_mem (List.mem_of_getElem? (i := 506) (rfl)) rfl
set_option maxRecDepth 20000 in
theorem cd_J9_abs_0f7a4 : Cond.code yJ9_abs_0f7a4 cJ9_abs_0f7a4 1 (some .int) ∈ gw := gw_mem (List.mem_of_getElem? (i := 509) (rfl)) rfl
set_option maxRecDepth 20000 in
theorem cd_X5_commonDivisor : Cond.code yX5_commonDivisor cX5_commonDivisor 6 (some .int) ∈ gw := gw_mem (List.mem_of_getElem? (i := 512) (rfl)) rfl
set_option maxRecDepth 20000 in
theorem cd_X5_rests : Cond.code yX5_rests cX5_rests 11 (some .int) ∈ gw := gw_mem (List.mem_of_getElem? (i := 516) (rfl)) rfl
set_option maxRecDepth 20000 in
theorem cd_X5_isContent : Cond.code yX5_isContent cX5_isContent 4 (some .boolean) ∈ gw := gw_mem (List.mem_of_getElem? (i := 519) (rfl)) rfl
set_option maxRecDepth 20000 in
theorem cd_X5_gain : Cond.code yX5_gain cX5_gain 4 (some .int) ∈ gw := gw_mem (List.mem_of_getElem? (i := 522) (rfl)) rfl
set_option maxRecDepth 20000 in
theorem cd_X5_flicker : Cond.code yX5_flicker cX5_flicker 8 (some .int) ∈ gw := gw_mem (List.mem_of_getElem? (i := 526) (rfl)) rfl
set_option maxRecDepth 20000 in
theorem cd_X5_tenthsOfYes : Cond.code yX5_tenthsOfYes cX5_tenthsOfYes 5 (some .int) ∈ gw := gw_mem (List.mem_of_getElem? (i := 530) (rfl)) rfl
set_option maxRecDepth 20000 in
theorem cd_X5_addToWays : Cond.code yX5_addToWays cX5_addToWays 3 none ∈ gw := gw_mem (List.mem_of_getElem? (i := 534) (rfl)) rfl
set_option maxRecDepth 20000 in
theorem cd_X5_seed : Cond.code yX5_seed cX5_seed 5 (some .long) ∈ gw := gw_mem (List.mem_of_getElem? (i := 538) (rfl)) rfl
set_option maxRecDepth 20000 in
theorem cd_X5_winters : Cond.code yX5_winters cX5_winters 3 (some .int) ∈ gw := gw_mem (List.mem_of_getElem? (i := 542) (rfl)) rfl
theorem cs_X5_240 : Cond.constantLong RX5 240 6364136223846793005 ∈ gw := gw_mem (List.mem_of_getElem? (i := 543) (by decide +kernel)) rfl
theorem cs_X5_242 : Cond.constantLong RX5 242 1442695040888963407 ∈ gw := gw_mem (List.mem_of_getElem? (i := 544) (by decide +kernel)) rfl
theorem cs_X5_244 : Cond.constantLong RX5 244 22 ∈ gw := gw_mem (List.mem_of_getElem? (i := 545) (by decide +kernel)) rfl
set_option maxRecDepth 20000 in
theorem cd_X5_winterOnTrial : Cond.code yX5_winterOnTrial cX5_winterOnTrial 2 none ∈ gw := gw_mem (List.mem_of_getElem? (i := 549) (rfl)) rfl
set_option maxRecDepth 20000 in
theorem cd_X1_rightPapers : Cond.code yX1_rightPapers cX1_rightPapers 4 (some .int) ∈ gw := gw_mem (List.mem_of_getElem? (i := 553) (rfl)) rfl
set_option maxRecDepth 20000 in
theorem cd_X5_keep : Cond.code yX5_keep cX5_keep 2 (some .int) ∈ gw := gw_mem (List.mem_of_getElem? (i := 560) (rfl)) rfl
set_option maxRecDepth 20000 in
theorem cd_X1_paperCount : Cond.code yX1_paperCount cX1_paperCount 1 (some .int) ∈ gw := gw_mem (List.mem_of_getElem? (i := 564) (rfl)) rfl
set_option maxRecDepth 20000 in
theorem cd_X5_again : Cond.code yX5_again cX5_again 2 (some .int) ∈ gw := gw_mem (List.mem_of_getElem? (i := 569) (rfl)) rfl
set_option maxRecDepth 20000 in
theorem cd_X5_count : Cond.code yX5_count cX5_count 2 (some .int) ∈ gw := gw_mem (List.mem_of_getElem? (i := 573) (rfl)) rfl
set_option maxRecDepth 20000 in
theorem cd_X6_init : Cond.code yX6_init cX6_init 1 none ∈ gw := gw_mem (List.mem_of_getElem? (i := 578) (rfl)) rfl
theorem fl_X6_86 : FL RX6 86 6 0 := ⟨_, _, _, rfl, by decide, gw_mem (List.mem_of_getElem? (i := 580) (by decide +kernel)) rfl, in_X6⟩
theorem fp_X6_86 : FP RX6 86 6 0 .int := ⟨_, _, _, tyX6, rfl, by decide, gw_mem (List.mem_of_getElem? (i := 580) (by decide +kernel)) rfl, in_X6, tyX6_ok, nmX6, rfl, by decide +kernel⟩
theorem fl_X6_89 : FL RX6 89 6 1 := ⟨_, _, _, rfl, by decide, gw_mem (List.mem_of_getElem? (i := 581) (by decide +kernel)) rfl, in_X6⟩
theorem fp_X6_89 : FP RX6 89 6 1 .int := ⟨_, _, _, tyX6, rfl, by decide, gw_mem (List.mem_of_getElem? (i := 581) (by decide +kernel)) rfl, in_X6, tyX6_ok, nmX6, rfl, by decide +kernel⟩
theorem fl_X6_7 : FL RX6 7 6 2 := ⟨_, _, _, rfl, by decide, gw_mem (List.mem_of_getElem? (i := 582) (by decide +kernel)) rfl, in_X6⟩
theorem fl_X6_13 : FL RX6 13 6 3 := ⟨_, _, _, rfl, by decide, gw_mem (List.mem_of_getElem? (i := 583) (by decide +kernel)) rfl, in_X6⟩
theorem fl_X6_16 : FL RX6 16 6 4 := ⟨_, _, _, rfl, by decide, gw_mem (List.mem_of_getElem? (i := 584) (by decide +kernel)) rfl, in_X6⟩
theorem fl_X6_19 : FL RX6 19 6 5 := ⟨_, _, _, rfl, by decide, gw_mem (List.mem_of_getElem? (i := 585) (by decide +kernel)) rfl, in_X6⟩
theorem fl_X6_22 : FL RX6 22 6 6 := ⟨_, _, _, rfl, by decide, gw_mem (List.mem_of_getElem? (i := 586) (by decide +kernel)) rfl, in_X6⟩
theorem fl_X6_25 : FL RX6 25 6 7 := ⟨_, _, _, rfl, by decide, gw_mem (List.mem_of_getElem? (i := 587) (by decide +kernel)) rfl, in_X6⟩
theorem fl_X6_28 : FL RX6 28 6 8 := ⟨_, _, _, rfl, by decide, gw_mem (List.mem_of_getElem? (i := 588) (by decide +kernel)) rfl, in_X6⟩
theorem fl_X6_72 : FL RX6 72 6 9 := ⟨_, _, _, rfl, by decide, gw_mem (List.mem_of_getElem? (i := 589) (by decide +kernel)) rfl, in_X6⟩
theorem fp_X6_72 : FP RX6 72 6 9 .int := ⟨_, _, _, tyX6, rfl, by decide, gw_mem (List.mem_of_getElem? (i := 589) (by decide +kernel)) rfl, in_X6, tyX6_ok, nmX6, rfl, by decide +kernel⟩
theorem fl_X6_75 : FL RX6 75 6 10 := ⟨_, _, _, rfl, by decide, gw_mem (List.mem_of_getElem? (i := 590) (by decide +kernel)) rfl, in_X6⟩
theorem fp_X6_75 : FP RX6 75 6 10 .int := ⟨_, _, _, tyX6, rfl, by decide, gw_mem (List.mem_of_getElem? (i := 590) (by decide +kernel)) rfl, in_X6, tyX6_ok, nmX6, rfl, by decide +kernel⟩
theorem fl_X6_31 : FL RX6 31 6 11 := ⟨_, _, _, rfl, by decide, gw_mem (List.mem_of_getElem? (i := 591) (by decide +kernel)) rfl, in_X6⟩
theorem fl_X6_62 : FL RX6 62 6 12 := ⟨_, _, _, rfl, by decide, gw_mem (List.mem_of_getElem? (i := 592) (by decide +kernel)) rfl, in_X6⟩
theorem fp_X6_62 : FP RX6 62 6 12 .int := ⟨_, _, _, tyX6, rfl, by decide, gw_mem (List.mem_of_getElem? (i := 592) (by decide +kernel)) rfl, in_X6, tyX6_ok, nmX6, rfl, by decide +kernel⟩
theorem fl_X6_69 : FL RX6 69 6 13 := ⟨_, _, _, rfl, by decide, gw_mem (List.mem_of_getElem? (i := 593) (by decide +kernel)) rfl, in_X6⟩
theorem fp_X6_69 : FP RX6 69 6 13 .int := ⟨_, _, _, tyX6, rfl, by decide, gw_mem (List.mem_of_getElem? (i := 593) (by decide +kernel)) rfl, in_X6, tyX6_ok, nmX6, rfl, by decide +kernel⟩
theorem fl_X6_66 : FL RX6 66 6 14 := ⟨_, _, _, rfl, by decide, gw_mem (List.mem_of_getElem? (i := 594) (by decide +kernel)) rfl, in_X6⟩
theorem fp_X6_66 : FP RX6 66 6 14 .int := ⟨_, _, _, tyX6, rfl, by decide, gw_mem (List.mem_of_getElem? (i := 594) (by decide +kernel)) rfl, in_X6, tyX6_ok, nmX6, rfl, by decide +kernel⟩
theorem fl_X6_92 : FL RX6 92 6 15 := ⟨_, _, _, rfl, by decide, gw_mem (List.mem_of_getElem? (i := 595) (by decide +kernel)) rfl, in_X6⟩
theorem fp_X6_92 : FP RX6 92 6 15 .int := ⟨_, _, _, tyX6, rfl, by decide, gw_mem (List.mem_of_getElem? (i := 595) (by decide +kernel)) rfl, in_X6, tyX6_ok, nmX6, rfl, by decide +kernel⟩
theorem fl_X6_128 : FL RX6 128 6 16 := ⟨_, _, _, rfl, by decide, gw_mem (List.mem_of_getElem? (i := 596) (by decide +kernel)) rfl, in_X6⟩
theorem fp_X6_128 : FP RX6 128 6 16 .int := ⟨_, _, _, tyX6, rfl, by decide, gw_mem (List.mem_of_getElem? (i := 596) (by decide +kernel)) rfl, in_X6, tyX6_ok, nmX6, rfl, by decide +kernel⟩
theorem fl_X6_34 : FL RX6 34 6 17 := ⟨_, _, _, rfl, by decide, gw_mem (List.mem_of_getElem? (i := 597) (by decide +kernel)) rfl, in_X6⟩
theorem fl_X6_154 : FL RX6 154 6 18 := ⟨_, _, _, rfl, by decide, gw_mem (List.mem_of_getElem? (i := 598) (by decide +kernel)) rfl, in_X6⟩
theorem fp_X6_154 : FP RX6 154 6 18 .int := ⟨_, _, _, tyX6, rfl, by decide, gw_mem (List.mem_of_getElem? (i := 598) (by decide +kernel)) rfl, in_X6, tyX6_ok, nmX6, rfl, by decide +kernel⟩
theorem fl_X6_37 : FL RX6 37 6 19 := ⟨_, _, _, rfl, by decide, gw_mem (List.mem_of_getElem? (i := 599) (by decide +kernel)) rfl, in_X6⟩
theorem fl_X6_40 : FL RX6 40 6 20 := ⟨_, _, _, rfl, by decide, gw_mem (List.mem_of_getElem? (i := 600) (by decide +kernel)) rfl, in_X6⟩
theorem fl_X6_43 : FL RX6 43 6 21 := ⟨_, _, _, rfl, by decide, gw_mem (List.mem_of_getElem? (i := 601) (by decide +kernel)) rfl, in_X6⟩
theorem fl_X6_46 : FL RX6 46 6 22 := ⟨_, _, _, rfl, by decide, gw_mem (List.mem_of_getElem? (i := 602) (by decide +kernel)) rfl, in_X6⟩
theorem fl_X6_193 : FL RX6 193 6 23 := ⟨_, _, _, rfl, by decide, gw_mem (List.mem_of_getElem? (i := 603) (by decide +kernel)) rfl, in_X6⟩
theorem fp_X6_193 : FP RX6 193 6 23 .long := ⟨_, _, _, tyX6, rfl, by decide, gw_mem (List.mem_of_getElem? (i := 603) (by decide +kernel)) rfl, in_X6, tyX6_ok, nmX6, rfl, by decide +kernel⟩
theorem fl_X6_49 : FL RX6 49 6 24 := ⟨_, _, _, rfl, by decide, gw_mem (List.mem_of_getElem? (i := 604) (by decide +kernel)) rfl, in_X6⟩
theorem fl_X6_53 : FL RX6 53 6 25 := ⟨_, _, _, rfl, by decide, gw_mem (List.mem_of_getElem? (i := 605) (by decide +kernel)) rfl, in_X6⟩
set_option maxRecDepth 20000 in
theorem cd_X6_write : Cond.code yX6_write cX6_write 2 (some .int) ∈ gw := gw_mem (List.mem_of_getElem? (i := 662) (rfl)) rfl
theorem cs_X6_56 : Cond.constantLong RX6 56 255 ∈ gw := gw_mem (List.mem_of_getElem? (i := 663) (by decide +kernel)) rfl
set_option maxRecDepth 20000 in
theorem cd_X6_in : Cond.code yX6_in cX6_in 6 (some .boolean) ∈ gw := gw_mem (List.mem_of_getElem? (i := 666) (rfl)) rfl
set_option maxRecDepth 20000 in
theorem cd_X6_wipe : Cond.code yX6_wipe cX6_wipe 2 (some .int) ∈ gw := gw_mem (List.mem_of_getElem? (i := 670) (rfl)) rfl
set_option maxRecDepth 20000 in
theorem cd_X6_fault : Cond.code yX6_fault cX6_fault 1 (some .int) ∈ gw := gw_mem (List.mem_of_getElem? (i := 674) (rfl)) rfl
set_option maxRecDepth 20000 in
theorem cd_X6_readText : Cond.code yX6_readText cX6_readText 1 (some .int) ∈ gw := gw_mem (List.mem_of_getElem? (i := 678) (rfl)) rfl
set_option maxRecDepth 20000 in
theorem cd_X6_figure : Cond.code yX6_figure cX6_figure 4 (some .int) ∈ gw := gw_mem (List.mem_of_getElem? (i := 682) (rfl)) rfl
set_option maxRecDepth 20000 in
theorem cd_X6_room : Cond.code yX6_room cX6_room 2 (some .int) ∈ gw := gw_mem (List.mem_of_getElem? (i := 686) (rfl)) rfl
set_option maxRecDepth 20000 in
theorem cd_X6_reader : Cond.code yX6_reader cX6_reader 3 (some .int) ∈ gw := gw_mem (List.mem_of_getElem? (i := 690) (rfl)) rfl
set_option maxRecDepth 20000 in
theorem cd_X6_isReader : Cond.code yX6_isReader cX6_isReader 2 (some .boolean) ∈ gw := gw_mem (List.mem_of_getElem? (i := 694) (rfl)) rfl
set_option maxRecDepth 20000 in
theorem cd_X6_sample : Cond.code yX6_sample cX6_sample 3 (some .int) ∈ gw := gw_mem (List.mem_of_getElem? (i := 698) (rfl)) rfl
set_option maxRecDepth 20000 in
theorem cd_X6_isSample : Cond.code yX6_isSample cX6_isSample 2 (some .boolean) ∈ gw := gw_mem (List.mem_of_getElem? (i := 702) (rfl)) rfl
set_option maxRecDepth 20000 in
theorem cd_X6_yesOn : Cond.code yX6_yesOn cX6_yesOn 4 (some .int) ∈ gw := gw_mem (List.mem_of_getElem? (i := 706) (rfl)) rfl
set_option maxRecDepth 20000 in
theorem cd_X6_saysOn : Cond.code yX6_saysOn cX6_saysOn 4 (some .boolean) ∈ gw := gw_mem (List.mem_of_getElem? (i := 710) (rfl)) rfl
set_option maxRecDepth 20000 in
theorem cd_X6_brightOn : Cond.code yX6_brightOn cX6_brightOn 5 (some .int) ∈ gw := gw_mem (List.mem_of_getElem? (i := 714) (rfl)) rfl
set_option maxRecDepth 20000 in
theorem cd_X6_brightFor : Cond.code yX6_brightFor cX6_brightFor 9 (some .int) ∈ gw := gw_mem (List.mem_of_getElem? (i := 718) (rfl)) rfl
set_option maxRecDepth 20000 in
theorem cd_X6_saysYes : Cond.code yX6_saysYes cX6_saysYes 3 (some .boolean) ∈ gw := gw_mem (List.mem_of_getElem? (i := 722) (rfl)) rfl
set_option maxRecDepth 20000 in
theorem cd_X6_papersOn : Cond.code yX6_papersOn cX6_papersOn 5 (some .int) ∈ gw := gw_mem (List.mem_of_getElem? (i := 726) (rfl)) rfl
set_option maxRecDepth 20000 in
theorem cd_X6_has : Cond.code yX6_has cX6_has 2 (some .boolean) ∈ gw := gw_mem (List.mem_of_getElem? (i := 729) (rfl)) rfl
set_option maxRecDepth 20000 in
theorem cd_X6_bright : Cond.code yX6_bright cX6_bright 3 (some .int) ∈ gw := gw_mem (List.mem_of_getElem? (i := 733) (rfl)) rfl
set_option maxRecDepth 20000 in
theorem cd_X6_read : Cond.code yX6_read cX6_read 3 (some .int) ∈ gw := gw_mem (List.mem_of_getElem? (i := 737) (rfl)) rfl
set_option maxRecDepth 20000 in
theorem cd_X6_keepAct : Cond.code yX6_keepAct cX6_keepAct 2 none ∈ gw := gw_mem (List.mem_of_getElem? (i := 741) (rfl)) rfl
set_option maxRecDepth 20000 in
theorem cd_X6_readOn : Cond.code yX6_readOn cX6_readOn 7 (some .boolean) ∈ gw := gw_mem (List.mem_of_getElem? (i := 745) (rfl)) rfl
set_option maxRecDepth 20000 in
theorem cd_X6_rest : Cond.code yX6_rest cX6_rest 3 (some .int) ∈ gw := gw_mem (List.mem_of_getElem? (i := 749) (rfl)) rfl
set_option maxRecDepth 20000 in
theorem cd_X6_withdraw : Cond.code yX6_withdraw cX6_withdraw 5 (some .int) ∈ gw := gw_mem (List.mem_of_getElem? (i := 753) (rfl)) rfl
set_option maxRecDepth 20000 in
theorem cd_X6_prism : Cond.code yX6_prism cX6_prism 1 (some .int) ∈ gw := gw_mem (List.mem_of_getElem? (i := 757) (rfl)) rfl
set_option maxRecDepth 20000 in
theorem cd_X6_tell : Cond.code yX6_tell cX6_tell 1 (some .int) ∈ gw := gw_mem (List.mem_of_getElem? (i := 761) (rfl)) rfl
set_option maxRecDepth 20000 in
theorem cd_X6_undo : Cond.code yX6_undo cX6_undo 2 (some .int) ∈ gw := gw_mem (List.mem_of_getElem? (i := 765) (rfl)) rfl
set_option maxRecDepth 20000 in
theorem cd_X6_fooled : Cond.code yX6_fooled cX6_fooled 4 (some .int) ∈ gw := gw_mem (List.mem_of_getElem? (i := 769) (rfl)) rfl
set_option maxRecDepth 20000 in
theorem cd_X6_truly : Cond.code yX6_truly cX6_truly 6 (some .int) ∈ gw := gw_mem (List.mem_of_getElem? (i := 773) (rfl)) rfl
set_option maxRecDepth 20000 in
theorem cd_X6_cover : Cond.code yX6_cover cX6_cover 4 (some .int) ∈ gw := gw_mem (List.mem_of_getElem? (i := 777) (rfl)) rfl
set_option maxRecDepth 20000 in
theorem cd_X6_ones : Cond.code yX6_ones cX6_ones 3 (some .int) ∈ gw := gw_mem (List.mem_of_getElem? (i := 780) (rfl)) rfl
set_option maxRecDepth 20000 in
theorem cd_X6_covers : Cond.code yX6_covers cX6_covers 5 (some .boolean) ∈ gw := gw_mem (List.mem_of_getElem? (i := 784) (rfl)) rfl
set_option maxRecDepth 20000 in
theorem cd_X6_wrong : Cond.code yX6_wrong cX6_wrong 8 (some .int) ∈ gw := gw_mem (List.mem_of_getElem? (i := 788) (rfl)) rfl
set_option maxRecDepth 20000 in
theorem cd_X6_judge : Cond.code yX6_judge cX6_judge 5 (some .int) ∈ gw := gw_mem (List.mem_of_getElem? (i := 792) (rfl)) rfl
theorem cs_X6_143 : Cond.constantLong RX6 143 4 ∈ gw := gw_mem (List.mem_of_getElem? (i := 793) (by decide +kernel)) rfl
set_option maxRecDepth 20000 in
theorem cd_X6_power : Cond.code yX6_power cX6_power 4 (some .int) ∈ gw := gw_mem (List.mem_of_getElem? (i := 796) (rfl)) rfl
set_option maxRecDepth 20000 in
theorem cd_X6_layTrial : Cond.code yX6_layTrial cX6_layTrial 2 none ∈ gw := gw_mem (List.mem_of_getElem? (i := 800) (rfl)) rfl
set_option maxRecDepth 20000 in
theorem cd_X6_tryThing : Cond.code yX6_tryThing cX6_tryThing 4 (some .boolean) ∈ gw := gw_mem (List.mem_of_getElem? (i := 804) (rfl)) rfl
set_option maxRecDepth 20000 in
theorem cd_X6_hear : Cond.code yX6_hear cX6_hear 5 (some .int) ∈ gw := gw_mem (List.mem_of_getElem? (i := 808) (rfl)) rfl
set_option maxRecDepth 20000 in
theorem cd_X6_unhear : Cond.code yX6_unhear cX6_unhear 2 (some .int) ∈ gw := gw_mem (List.mem_of_getElem? (i := 812) (rfl)) rfl
set_option maxRecDepth 20000 in
theorem cd_X6_expect : Cond.code yX6_expect cX6_expect 4 (some .int) ∈ gw := gw_mem (List.mem_of_getElem? (i := 816) (rfl)) rfl
set_option maxRecDepth 20000 in
theorem cd_X6_mayExpect : Cond.code yX6_mayExpect cX6_mayExpect 6 (some .boolean) ∈ gw := gw_mem (List.mem_of_getElem? (i := 820) (rfl)) rfl
set_option maxRecDepth 20000 in
theorem cd_X6_gone : Cond.code yX6_gone cX6_gone 7 (some .int) ∈ gw := gw_mem (List.mem_of_getElem? (i := 824) (rfl)) rfl
theorem cs_X6_163 : Cond.constantLong RX6 163 6 ∈ gw := gw_mem (List.mem_of_getElem? (i := 825) (by decide +kernel)) rfl
set_option maxRecDepth 20000 in
theorem cd_X6_sampleIn : Cond.code yX6_sampleIn cX6_sampleIn 4 (some .int) ∈ gw := gw_mem (List.mem_of_getElem? (i := 829) (rfl)) rfl
set_option maxRecDepth 20000 in
theorem cd_X6_isGone : Cond.code yX6_isGone cX6_isGone 10 (some .boolean) ∈ gw := gw_mem (List.mem_of_getElem? (i := 833) (rfl)) rfl
set_option maxRecDepth 20000 in
theorem cd_X6_share : Cond.code yX6_share cX6_share 6 (some .int) ∈ gw := gw_mem (List.mem_of_getElem? (i := 837) (rfl)) rfl
set_option maxRecDepth 20000 in
theorem cd_X6_factorial : Cond.code yX6_factorial cX6_factorial 3 (some .int) ∈ gw := gw_mem (List.mem_of_getElem? (i := 840) (rfl)) rfl
set_option maxRecDepth 20000 in
theorem cd_X6_rightBy : Cond.code yX6_rightBy cX6_rightBy 6 (some .int) ∈ gw := gw_mem (List.mem_of_getElem? (i := 844) (rfl)) rfl
set_option maxRecDepth 20000 in
theorem cd_X6_common : Cond.code yX6_common cX6_common 5 (some .int) ∈ gw := gw_mem (List.mem_of_getElem? (i := 847) (rfl)) rfl
set_option maxRecDepth 20000 in
theorem cd_X6_rests : Cond.code yX6_rests cX6_rests 8 (some .int) ∈ gw := gw_mem (List.mem_of_getElem? (i := 851) (rfl)) rfl
set_option maxRecDepth 20000 in
theorem cd_X6_isRest : Cond.code yX6_isRest cX6_isRest 6 (some .boolean) ∈ gw := gw_mem (List.mem_of_getElem? (i := 855) (rfl)) rfl
set_option maxRecDepth 20000 in
theorem cd_X6_gain : Cond.code yX6_gain cX6_gain 8 (some .int) ∈ gw := gw_mem (List.mem_of_getElem? (i := 859) (rfl)) rfl
set_option maxRecDepth 20000 in
theorem cd_X6_isRight : Cond.code yX6_isRight cX6_isRight 3 (some .boolean) ∈ gw := gw_mem (List.mem_of_getElem? (i := 863) (rfl)) rfl
set_option maxRecDepth 20000 in
theorem cd_X6_flicker : Cond.code yX6_flicker cX6_flicker 11 (some .int) ∈ gw := gw_mem (List.mem_of_getElem? (i := 867) (rfl)) rfl
theorem cs_X6_189 : Cond.constantLong RX6 189 5 ∈ gw := gw_mem (List.mem_of_getElem? (i := 868) (by decide +kernel)) rfl
theorem cs_X6_191 : Cond.constantLong RX6 191 10 ∈ gw := gw_mem (List.mem_of_getElem? (i := 869) (by decide +kernel)) rfl
set_option maxRecDepth 20000 in
theorem cd_X6_seed : Cond.code yX6_seed cX6_seed 5 (some .long) ∈ gw := gw_mem (List.mem_of_getElem? (i := 873) (rfl)) rfl
set_option maxRecDepth 20000 in
theorem cd_X6_winters : Cond.code yX6_winters cX6_winters 5 (some .int) ∈ gw := gw_mem (List.mem_of_getElem? (i := 877) (rfl)) rfl
theorem cs_X6_197 : Cond.constantLong RX6 197 30 ∈ gw := gw_mem (List.mem_of_getElem? (i := 878) (by decide +kernel)) rfl
theorem cs_X6_199 : Cond.constantLong RX6 199 6364136223846793005 ∈ gw := gw_mem (List.mem_of_getElem? (i := 879) (by decide +kernel)) rfl
theorem cs_X6_201 : Cond.constantLong RX6 201 1442695040888963407 ∈ gw := gw_mem (List.mem_of_getElem? (i := 880) (by decide +kernel)) rfl
theorem cs_X6_203 : Cond.constantLong RX6 203 22 ∈ gw := gw_mem (List.mem_of_getElem? (i := 881) (by decide +kernel)) rfl
set_option maxRecDepth 20000 in
theorem cd_X6_rightOn : Cond.code yX6_rightOn cX6_rightOn 5 (some .int) ∈ gw := gw_mem (List.mem_of_getElem? (i := 885) (rfl)) rfl
set_option maxRecDepth 20000 in
theorem cd_X6_keep : Cond.code yX6_keep cX6_keep 3 (some .int) ∈ gw := gw_mem (List.mem_of_getElem? (i := 889) (rfl)) rfl
set_option maxRecDepth 20000 in
theorem cd_X6_again : Cond.code yX6_again cX6_again 3 (some .int) ∈ gw := gw_mem (List.mem_of_getElem? (i := 893) (rfl)) rfl
set_option maxRecDepth 20000 in
theorem cd_X6_count : Cond.code yX6_count cX6_count 2 (some .int) ∈ gw := gw_mem (List.mem_of_getElem? (i := 897) (rfl)) rfl
theorem cs_L_120 : Cond.constantLong RL 120 4294967295 ∈ gw := gw_mem (List.mem_of_getElem? (i := 898) (by decide +kernel)) rfl
theorem ml_L_13 : VL RL 13 5 yX5_write cX5_write 2 (some .int) 1 := ⟨gw_mem (List.mem_of_getElem? (i := 208) (by decide +kernel)) rfl, gw_mem (List.mem_of_getElem? (i := 209) (by decide +kernel)) rfl, gw_mem (List.mem_of_getElem? (i := 210) (by decide +kernel)) rfl, gw_mem (List.mem_of_getElem? (i := 39) (by decide +kernel)) rfl, cd_X5_write, by decide, by decide, by decide +kernel, _, _, rfl⟩
theorem ml_X5_62 : VL RX5 62 4 yX4_append cX4_append 2 (some .boolean) 1 := ⟨gw_mem (List.mem_of_getElem? (i := 212) (by decide +kernel)) rfl, gw_mem (List.mem_of_getElem? (i := 213) (by decide +kernel)) rfl, gw_mem (List.mem_of_getElem? (i := 214) (by decide +kernel)) rfl, gw_mem (List.mem_of_getElem? (i := 40) (by decide +kernel)) rfl, cd_X4_append, by decide, by decide, by decide +kernel, _, _, rfl⟩
theorem ml_L_18 : VL RL 18 5 yX5_wipe cX5_wipe 2 (some .int) 0 := ⟨gw_mem (List.mem_of_getElem? (i := 216) (by decide +kernel)) rfl, gw_mem (List.mem_of_getElem? (i := 217) (by decide +kernel)) rfl, gw_mem (List.mem_of_getElem? (i := 218) (by decide +kernel)) rfl, gw_mem (List.mem_of_getElem? (i := 39) (by decide +kernel)) rfl, cd_X5_wipe, by decide, by decide, by decide +kernel, _, _, rfl⟩
theorem ml_L_23 : VL RL 23 5 yX5_fault cX5_fault 1 (some .int) 0 := ⟨gw_mem (List.mem_of_getElem? (i := 220) (by decide +kernel)) rfl, gw_mem (List.mem_of_getElem? (i := 221) (by decide +kernel)) rfl, gw_mem (List.mem_of_getElem? (i := 222) (by decide +kernel)) rfl, gw_mem (List.mem_of_getElem? (i := 39) (by decide +kernel)) rfl, cd_X5_fault, by decide, by decide, by decide +kernel, _, _, rfl⟩
theorem ml_X5_70 : VL RX5 70 4 yX4_firstFault cX4_firstFault 7 (some .int) 0 := ⟨gw_mem (List.mem_of_getElem? (i := 224) (by decide +kernel)) rfl, gw_mem (List.mem_of_getElem? (i := 225) (by decide +kernel)) rfl, gw_mem (List.mem_of_getElem? (i := 226) (by decide +kernel)) rfl, gw_mem (List.mem_of_getElem? (i := 40) (by decide +kernel)) rfl, cd_X4_firstFault, by decide, by decide, by decide +kernel, _, _, rfl⟩
theorem ml_X4_19 : VL RX4 19 4 yX4_letterAt cX4_letterAt 2 (some .int) 1 := ⟨gw_mem (List.mem_of_getElem? (i := 228) (by decide +kernel)) rfl, gw_mem (List.mem_of_getElem? (i := 229) (by decide +kernel)) rfl, gw_mem (List.mem_of_getElem? (i := 230) (by decide +kernel)) rfl, gw_mem (List.mem_of_getElem? (i := 40) (by decide +kernel)) rfl, cd_X4_letterAt, by decide, by decide, by decide +kernel, _, _, rfl⟩
theorem ml_X4_23 : VL RX4 23 4 yX4_readerFault cX4_readerFault 4 (some .int) 1 := ⟨gw_mem (List.mem_of_getElem? (i := 232) (by decide +kernel)) rfl, gw_mem (List.mem_of_getElem? (i := 234) (by decide +kernel)) rfl, gw_mem (List.mem_of_getElem? (i := 0) (by decide +kernel)) rfl, gw_mem (List.mem_of_getElem? (i := 40) (by decide +kernel)) rfl, cd_X4_readerFault, by decide, by decide, by decide +kernel, _, _, rfl⟩
theorem ml_X4_26 : VL RX4 26 4 yX4_figureFault cX4_figureFault 5 (some .int) 3 := ⟨gw_mem (List.mem_of_getElem? (i := 236) (by decide +kernel)) rfl, gw_mem (List.mem_of_getElem? (i := 238) (by decide +kernel)) rfl, gw_mem (List.mem_of_getElem? (i := 1) (by decide +kernel)) rfl, gw_mem (List.mem_of_getElem? (i := 40) (by decide +kernel)) rfl, cd_X4_figureFault, by decide, by decide, by decide +kernel, _, _, rfl⟩
theorem ml_L_27 : VL RL 27 5 yX5_room cX5_room 2 (some .int) 0 := ⟨gw_mem (List.mem_of_getElem? (i := 240) (by decide +kernel)) rfl, gw_mem (List.mem_of_getElem? (i := 241) (by decide +kernel)) rfl, gw_mem (List.mem_of_getElem? (i := 242) (by decide +kernel)) rfl, gw_mem (List.mem_of_getElem? (i := 39) (by decide +kernel)) rfl, cd_X5_room, by decide, by decide, by decide +kernel, _, _, rfl⟩
theorem ml_X5_74 : VL RX5 74 3 yX3_make cX3_make 3 none 1 := ⟨gw_mem (List.mem_of_getElem? (i := 244) (by decide +kernel)) rfl, gw_mem (List.mem_of_getElem? (i := 245) (by decide +kernel)) rfl, gw_mem (List.mem_of_getElem? (i := 246) (by decide +kernel)) rfl, gw_mem (List.mem_of_getElem? (i := 41) (by decide +kernel)) rfl, cd_X3_make, by decide, by decide, by decide +kernel, _, _, rfl⟩
theorem ml_X3_36 : VL RX3 36 4 yX4_letterAt cX4_letterAt 2 (some .int) 1 := ⟨gw_mem (List.mem_of_getElem? (i := 248) (by decide +kernel)) rfl, gw_mem (List.mem_of_getElem? (i := 229) (by decide +kernel)) rfl, gw_mem (List.mem_of_getElem? (i := 230) (by decide +kernel)) rfl, gw_mem (List.mem_of_getElem? (i := 40) (by decide +kernel)) rfl, cd_X4_letterAt, by decide, by decide, by decide +kernel, _, _, rfl⟩
theorem ml_X3_40 : VL RX3 40 3 yX3_addReader cX3_addReader 3 none 2 := ⟨gw_mem (List.mem_of_getElem? (i := 249) (by decide +kernel)) rfl, gw_mem (List.mem_of_getElem? (i := 251) (by decide +kernel)) rfl, gw_mem (List.mem_of_getElem? (i := 2) (by decide +kernel)) rfl, gw_mem (List.mem_of_getElem? (i := 41) (by decide +kernel)) rfl, cd_X3_addReader, by decide, by decide, by decide +kernel, _, _, rfl⟩
theorem ml_X3_44 : VL RX3 44 4 yX4_figureAt cX4_figureAt 2 (some .int) 1 := ⟨gw_mem (List.mem_of_getElem? (i := 253) (by decide +kernel)) rfl, gw_mem (List.mem_of_getElem? (i := 254) (by decide +kernel)) rfl, gw_mem (List.mem_of_getElem? (i := 255) (by decide +kernel)) rfl, gw_mem (List.mem_of_getElem? (i := 40) (by decide +kernel)) rfl, cd_X4_figureAt, by decide, by decide, by decide +kernel, _, _, rfl⟩
theorem ml_X3_47 : VL RX3 47 3 yX3_addSample cX3_addSample 2 none 1 := ⟨gw_mem (List.mem_of_getElem? (i := 257) (by decide +kernel)) rfl, gw_mem (List.mem_of_getElem? (i := 259) (by decide +kernel)) rfl, gw_mem (List.mem_of_getElem? (i := 3) (by decide +kernel)) rfl, gw_mem (List.mem_of_getElem? (i := 41) (by decide +kernel)) rfl, cd_X3_addSample, by decide, by decide, by decide +kernel, _, _, rfl⟩
theorem ml_X5_78 : VL RX5 78 1 yX1_clear cX1_clear 1 none 0 := ⟨gw_mem (List.mem_of_getElem? (i := 261) (by decide +kernel)) rfl, gw_mem (List.mem_of_getElem? (i := 262) (by decide +kernel)) rfl, gw_mem (List.mem_of_getElem? (i := 263) (by decide +kernel)) rfl, gw_mem (List.mem_of_getElem? (i := 42) (by decide +kernel)) rfl, cd_X1_clear, by decide, by decide, by decide +kernel, _, _, rfl⟩
theorem ml_X5_81 : VL RX5 81 0 yX0_clear cX0_clear 1 none 0 := ⟨gw_mem (List.mem_of_getElem? (i := 265) (by decide +kernel)) rfl, gw_mem (List.mem_of_getElem? (i := 266) (by decide +kernel)) rfl, gw_mem (List.mem_of_getElem? (i := 267) (by decide +kernel)) rfl, gw_mem (List.mem_of_getElem? (i := 43) (by decide +kernel)) rfl, cd_X0_clear, by decide, by decide, by decide +kernel, _, _, rfl⟩
theorem ml_L_31 : VL RL 31 5 yX5_reader cX5_reader 3 (some .int) 2 := ⟨gw_mem (List.mem_of_getElem? (i := 269) (by decide +kernel)) rfl, gw_mem (List.mem_of_getElem? (i := 270) (by decide +kernel)) rfl, gw_mem (List.mem_of_getElem? (i := 271) (by decide +kernel)) rfl, gw_mem (List.mem_of_getElem? (i := 39) (by decide +kernel)) rfl, cd_X5_reader, by decide, by decide, by decide +kernel, _, _, rfl⟩
theorem ml_X5_88 : VL RX5 88 3 yX3_hasReader cX3_hasReader 2 (some .boolean) 1 := ⟨gw_mem (List.mem_of_getElem? (i := 273) (by decide +kernel)) rfl, gw_mem (List.mem_of_getElem? (i := 274) (by decide +kernel)) rfl, gw_mem (List.mem_of_getElem? (i := 275) (by decide +kernel)) rfl, gw_mem (List.mem_of_getElem? (i := 41) (by decide +kernel)) rfl, cd_X3_hasReader, by decide, by decide, by decide +kernel, _, _, rfl⟩
theorem ml_X5_100 : VL RX5 100 1 yX1_readingsOf cX1_readingsOf 2 (some .int) 1 := ⟨gw_mem (List.mem_of_getElem? (i := 277) (by decide +kernel)) rfl, gw_mem (List.mem_of_getElem? (i := 278) (by decide +kernel)) rfl, gw_mem (List.mem_of_getElem? (i := 279) (by decide +kernel)) rfl, gw_mem (List.mem_of_getElem? (i := 42) (by decide +kernel)) rfl, cd_X1_readingsOf, by decide, by decide, by decide +kernel, _, _, rfl⟩
theorem ml_L_36 : VL RL 36 5 yX5_sample cX5_sample 3 (some .int) 2 := ⟨gw_mem (List.mem_of_getElem? (i := 281) (by decide +kernel)) rfl, gw_mem (List.mem_of_getElem? (i := 282) (by decide +kernel)) rfl, gw_mem (List.mem_of_getElem? (i := 283) (by decide +kernel)) rfl, gw_mem (List.mem_of_getElem? (i := 39) (by decide +kernel)) rfl, cd_X5_sample, by decide, by decide, by decide +kernel, _, _, rfl⟩
theorem ml_X5_104 : VL RX5 104 3 yX3_hasSample cX3_hasSample 2 (some .boolean) 1 := ⟨gw_mem (List.mem_of_getElem? (i := 285) (by decide +kernel)) rfl, gw_mem (List.mem_of_getElem? (i := 286) (by decide +kernel)) rfl, gw_mem (List.mem_of_getElem? (i := 287) (by decide +kernel)) rfl, gw_mem (List.mem_of_getElem? (i := 41) (by decide +kernel)) rfl, cd_X3_hasSample, by decide, by decide, by decide +kernel, _, _, rfl⟩
theorem ml_X5_110 : VL RX5 110 5 yX5_sayingYes cX5_sayingYes 2 (some .int) 1 := ⟨gw_mem (List.mem_of_getElem? (i := 289) (by decide +kernel)) rfl, gw_mem (List.mem_of_getElem? (i := 291) (by decide +kernel)) rfl, gw_mem (List.mem_of_getElem? (i := 4) (by decide +kernel)) rfl, gw_mem (List.mem_of_getElem? (i := 39) (by decide +kernel)) rfl, cd_X5_sayingYes, by decide, by decide, by decide +kernel, _, _, rfl⟩
theorem ml_X5_166 : VL RX5 166 5 yX5_sayingYesIf cX5_sayingYesIf 7 (some .int) 3 := ⟨gw_mem (List.mem_of_getElem? (i := 293) (by decide +kernel)) rfl, gw_mem (List.mem_of_getElem? (i := 295) (by decide +kernel)) rfl, gw_mem (List.mem_of_getElem? (i := 5) (by decide +kernel)) rfl, gw_mem (List.mem_of_getElem? (i := 39) (by decide +kernel)) rfl, cd_X5_sayingYesIf, by decide, by decide, by decide +kernel, _, _, rfl⟩
theorem ml_X5_256 : VL RX5 256 3 yX3_seen cX3_seen 8 (some .int) 6 := ⟨gw_mem (List.mem_of_getElem? (i := 297) (by decide +kernel)) rfl, gw_mem (List.mem_of_getElem? (i := 298) (by decide +kernel)) rfl, gw_mem (List.mem_of_getElem? (i := 299) (by decide +kernel)) rfl, gw_mem (List.mem_of_getElem? (i := 41) (by decide +kernel)) rfl, cd_X3_seen, by decide, by decide, by decide +kernel, _, _, rfl⟩
theorem ml_X3_58 : VL RX3 58 3 yX3_hasBoth cX3_hasBoth 3 (some .boolean) 2 := ⟨gw_mem (List.mem_of_getElem? (i := 301) (by decide +kernel)) rfl, gw_mem (List.mem_of_getElem? (i := 302) (by decide +kernel)) rfl, gw_mem (List.mem_of_getElem? (i := 303) (by decide +kernel)) rfl, gw_mem (List.mem_of_getElem? (i := 41) (by decide +kernel)) rfl, cd_X3_hasBoth, by decide, by decide, by decide +kernel, _, _, rfl⟩
theorem ml_X3_51 : VL RX3 51 3 yX3_hasReader cX3_hasReader 2 (some .boolean) 1 := ⟨gw_mem (List.mem_of_getElem? (i := 305) (by decide +kernel)) rfl, gw_mem (List.mem_of_getElem? (i := 274) (by decide +kernel)) rfl, gw_mem (List.mem_of_getElem? (i := 275) (by decide +kernel)) rfl, gw_mem (List.mem_of_getElem? (i := 41) (by decide +kernel)) rfl, cd_X3_hasReader, by decide, by decide, by decide +kernel, _, _, rfl⟩
theorem ml_X3_55 : VL RX3 55 3 yX3_hasSample cX3_hasSample 2 (some .boolean) 1 := ⟨gw_mem (List.mem_of_getElem? (i := 306) (by decide +kernel)) rfl, gw_mem (List.mem_of_getElem? (i := 286) (by decide +kernel)) rfl, gw_mem (List.mem_of_getElem? (i := 287) (by decide +kernel)) rfl, gw_mem (List.mem_of_getElem? (i := 41) (by decide +kernel)) rfl, cd_X3_hasSample, by decide, by decide, by decide +kernel, _, _, rfl⟩
theorem ml_X3_62 : SL RX3 62 yJ9_max_7cf53 cJ9_max_7cf53 2 (some .int) 2 := ⟨gw_mem (List.mem_of_getElem? (i := 307) (by decide +kernel)) rfl, gw_mem (List.mem_of_getElem? (i := 308) (by decide +kernel)) rfl, gw_mem (List.mem_of_getElem? (i := 46) (by decide +kernel)) rfl, cd_J9_max_7cf53, by decide, by decide, by decide +kernel⟩
theorem ml_X5_260 : VL RX5 260 3 yX3_saysYes cX3_saysYes 3 (some .boolean) 2 := ⟨gw_mem (List.mem_of_getElem? (i := 310) (by decide +kernel)) rfl, gw_mem (List.mem_of_getElem? (i := 311) (by decide +kernel)) rfl, gw_mem (List.mem_of_getElem? (i := 312) (by decide +kernel)) rfl, gw_mem (List.mem_of_getElem? (i := 41) (by decide +kernel)) rfl, cd_X3_saysYes, by decide, by decide, by decide +kernel, _, _, rfl⟩
theorem ml_X5_116 : SL RX5 116 yX1_printers cX1_printers 4 (some .int) 2 := ⟨gw_mem (List.mem_of_getElem? (i := 314) (by decide +kernel)) rfl, gw_mem (List.mem_of_getElem? (i := 315) (by decide +kernel)) rfl, gw_mem (List.mem_of_getElem? (i := 42) (by decide +kernel)) rfl, cd_X1_printers, by decide, by decide, by decide +kernel⟩
theorem ml_X1_29 : SL RX1 29 yX1_paper cX1_paper 2 (some .int) 2 := ⟨gw_mem (List.mem_of_getElem? (i := 317) (by decide +kernel)) rfl, gw_mem (List.mem_of_getElem? (i := 318) (by decide +kernel)) rfl, gw_mem (List.mem_of_getElem? (i := 42) (by decide +kernel)) rfl, cd_X1_paper, by decide, by decide, by decide +kernel⟩
theorem ml_L_40 : VL RL 40 5 yX5_bright cX5_bright 3 (some .int) 2 := ⟨gw_mem (List.mem_of_getElem? (i := 320) (by decide +kernel)) rfl, gw_mem (List.mem_of_getElem? (i := 321) (by decide +kernel)) rfl, gw_mem (List.mem_of_getElem? (i := 322) (by decide +kernel)) rfl, gw_mem (List.mem_of_getElem? (i := 39) (by decide +kernel)) rfl, cd_X5_bright, by decide, by decide, by decide +kernel, _, _, rfl⟩
theorem ml_X5_123 : VL RX5 123 3 yX3_hasBoth cX3_hasBoth 3 (some .boolean) 2 := ⟨gw_mem (List.mem_of_getElem? (i := 324) (by decide +kernel)) rfl, gw_mem (List.mem_of_getElem? (i := 302) (by decide +kernel)) rfl, gw_mem (List.mem_of_getElem? (i := 303) (by decide +kernel)) rfl, gw_mem (List.mem_of_getElem? (i := 41) (by decide +kernel)) rfl, cd_X3_hasBoth, by decide, by decide, by decide +kernel, _, _, rfl⟩
theorem ml_X5_127 : VL RX5 127 1 yX1_seenBy cX1_seenBy 4 (some .int) 3 := ⟨gw_mem (List.mem_of_getElem? (i := 325) (by decide +kernel)) rfl, gw_mem (List.mem_of_getElem? (i := 326) (by decide +kernel)) rfl, gw_mem (List.mem_of_getElem? (i := 327) (by decide +kernel)) rfl, gw_mem (List.mem_of_getElem? (i := 42) (by decide +kernel)) rfl, cd_X1_seenBy, by decide, by decide, by decide +kernel, _, _, rfl⟩
theorem ml_X1_55 : VL RX1 55 3 yX3_expectsOf cX3_expectsOf 2 (some .int) 1 := ⟨gw_mem (List.mem_of_getElem? (i := 329) (by decide +kernel)) rfl, gw_mem (List.mem_of_getElem? (i := 330) (by decide +kernel)) rfl, gw_mem (List.mem_of_getElem? (i := 331) (by decide +kernel)) rfl, gw_mem (List.mem_of_getElem? (i := 41) (by decide +kernel)) rfl, cd_X3_expectsOf, by decide, by decide, by decide +kernel, _, _, rfl⟩
theorem ml_X1_58 : VL RX1 58 1 yX1_readingsOf cX1_readingsOf 2 (some .int) 1 := ⟨gw_mem (List.mem_of_getElem? (i := 333) (by decide +kernel)) rfl, gw_mem (List.mem_of_getElem? (i := 278) (by decide +kernel)) rfl, gw_mem (List.mem_of_getElem? (i := 279) (by decide +kernel)) rfl, gw_mem (List.mem_of_getElem? (i := 42) (by decide +kernel)) rfl, cd_X1_readingsOf, by decide, by decide, by decide +kernel, _, _, rfl⟩
theorem ml_X1_61 : VL RX1 61 3 yX3_seen cX3_seen 8 (some .int) 6 := ⟨gw_mem (List.mem_of_getElem? (i := 334) (by decide +kernel)) rfl, gw_mem (List.mem_of_getElem? (i := 298) (by decide +kernel)) rfl, gw_mem (List.mem_of_getElem? (i := 299) (by decide +kernel)) rfl, gw_mem (List.mem_of_getElem? (i := 41) (by decide +kernel)) rfl, cd_X3_seen, by decide, by decide, by decide +kernel, _, _, rfl⟩
theorem ml_L_44 : VL RL 44 5 yX5_read cX5_read 3 (some .int) 2 := ⟨gw_mem (List.mem_of_getElem? (i := 335) (by decide +kernel)) rfl, gw_mem (List.mem_of_getElem? (i := 336) (by decide +kernel)) rfl, gw_mem (List.mem_of_getElem? (i := 337) (by decide +kernel)) rfl, gw_mem (List.mem_of_getElem? (i := 39) (by decide +kernel)) rfl, cd_X5_read, by decide, by decide, by decide +kernel, _, _, rfl⟩
theorem ml_X5_131 : VL RX5 131 0 yX0_remember cX0_remember 2 none 1 := ⟨gw_mem (List.mem_of_getElem? (i := 339) (by decide +kernel)) rfl, gw_mem (List.mem_of_getElem? (i := 340) (by decide +kernel)) rfl, gw_mem (List.mem_of_getElem? (i := 341) (by decide +kernel)) rfl, gw_mem (List.mem_of_getElem? (i := 43) (by decide +kernel)) rfl, cd_X0_remember, by decide, by decide, by decide +kernel, _, _, rfl⟩
theorem ml_X0_25 : VL RX0 25 1 yX1_copyFrom cX1_copyFrom 2 none 1 := ⟨gw_mem (List.mem_of_getElem? (i := 343) (by decide +kernel)) rfl, gw_mem (List.mem_of_getElem? (i := 344) (by decide +kernel)) rfl, gw_mem (List.mem_of_getElem? (i := 345) (by decide +kernel)) rfl, gw_mem (List.mem_of_getElem? (i := 42) (by decide +kernel)) rfl, cd_X1_copyFrom, by decide, by decide, by decide +kernel, _, _, rfl⟩
theorem ml_X0_29 : SL RX0 29 yJ9_min_7cf53 cJ9_min_7cf53 2 (some .int) 2 := ⟨gw_mem (List.mem_of_getElem? (i := 347) (by decide +kernel)) rfl, gw_mem (List.mem_of_getElem? (i := 348) (by decide +kernel)) rfl, gw_mem (List.mem_of_getElem? (i := 46) (by decide +kernel)) rfl, cd_J9_min_7cf53, by decide, by decide, by decide +kernel⟩
theorem ml_X5_135 : VL RX5 135 1 yX1_takeReading cX1_takeReading 6 (some .boolean) 3 := ⟨gw_mem (List.mem_of_getElem? (i := 350) (by decide +kernel)) rfl, gw_mem (List.mem_of_getElem? (i := 351) (by decide +kernel)) rfl, gw_mem (List.mem_of_getElem? (i := 352) (by decide +kernel)) rfl, gw_mem (List.mem_of_getElem? (i := 42) (by decide +kernel)) rfl, cd_X1_takeReading, by decide, by decide, by decide +kernel, _, _, rfl⟩
theorem ml_X1_65 : VL RX1 65 1 yX1_seenBy cX1_seenBy 4 (some .int) 3 := ⟨gw_mem (List.mem_of_getElem? (i := 354) (by decide +kernel)) rfl, gw_mem (List.mem_of_getElem? (i := 326) (by decide +kernel)) rfl, gw_mem (List.mem_of_getElem? (i := 327) (by decide +kernel)) rfl, gw_mem (List.mem_of_getElem? (i := 42) (by decide +kernel)) rfl, cd_X1_seenBy, by decide, by decide, by decide +kernel, _, _, rfl⟩
theorem ml_X1_69 : VL RX1 69 3 yX3_saysYes cX3_saysYes 3 (some .boolean) 2 := ⟨gw_mem (List.mem_of_getElem? (i := 355) (by decide +kernel)) rfl, gw_mem (List.mem_of_getElem? (i := 311) (by decide +kernel)) rfl, gw_mem (List.mem_of_getElem? (i := 312) (by decide +kernel)) rfl, gw_mem (List.mem_of_getElem? (i := 41) (by decide +kernel)) rfl, cd_X3_saysYes, by decide, by decide, by decide +kernel, _, _, rfl⟩
theorem ml_X1_73 : SL RX1 73 yJ9_min_7cf53 cJ9_min_7cf53 2 (some .int) 2 := ⟨gw_mem (List.mem_of_getElem? (i := 356) (by decide +kernel)) rfl, gw_mem (List.mem_of_getElem? (i := 348) (by decide +kernel)) rfl, gw_mem (List.mem_of_getElem? (i := 46) (by decide +kernel)) rfl, cd_J9_min_7cf53, by decide, by decide, by decide +kernel⟩
theorem ml_X1_78 : VL RX1 78 1 yX1_setReadings cX1_setReadings 3 none 2 := ⟨gw_mem (List.mem_of_getElem? (i := 357) (by decide +kernel)) rfl, gw_mem (List.mem_of_getElem? (i := 358) (by decide +kernel)) rfl, gw_mem (List.mem_of_getElem? (i := 359) (by decide +kernel)) rfl, gw_mem (List.mem_of_getElem? (i := 42) (by decide +kernel)) rfl, cd_X1_setReadings, by decide, by decide, by decide +kernel, _, _, rfl⟩
theorem ml_X1_82 : VL RX1 82 1 yX1_dropPaper cX1_dropPaper 2 none 1 := ⟨gw_mem (List.mem_of_getElem? (i := 361) (by decide +kernel)) rfl, gw_mem (List.mem_of_getElem? (i := 362) (by decide +kernel)) rfl, gw_mem (List.mem_of_getElem? (i := 363) (by decide +kernel)) rfl, gw_mem (List.mem_of_getElem? (i := 42) (by decide +kernel)) rfl, cd_X1_dropPaper, by decide, by decide, by decide +kernel, _, _, rfl⟩
theorem ml_L_48 : VL RL 48 5 yX5_rest cX5_rest 3 (some .int) 1 := ⟨gw_mem (List.mem_of_getElem? (i := 365) (by decide +kernel)) rfl, gw_mem (List.mem_of_getElem? (i := 366) (by decide +kernel)) rfl, gw_mem (List.mem_of_getElem? (i := 367) (by decide +kernel)) rfl, gw_mem (List.mem_of_getElem? (i := 39) (by decide +kernel)) rfl, cd_X5_rest, by decide, by decide, by decide +kernel, _, _, rfl⟩
theorem ml_X5_139 : VL RX5 139 1 yX1_setReadings cX1_setReadings 3 none 2 := ⟨gw_mem (List.mem_of_getElem? (i := 369) (by decide +kernel)) rfl, gw_mem (List.mem_of_getElem? (i := 358) (by decide +kernel)) rfl, gw_mem (List.mem_of_getElem? (i := 359) (by decide +kernel)) rfl, gw_mem (List.mem_of_getElem? (i := 42) (by decide +kernel)) rfl, cd_X1_setReadings, by decide, by decide, by decide +kernel, _, _, rfl⟩
theorem ml_L_52 : VL RL 52 5 yX5_withdraw cX5_withdraw 5 (some .int) 2 := ⟨gw_mem (List.mem_of_getElem? (i := 370) (by decide +kernel)) rfl, gw_mem (List.mem_of_getElem? (i := 371) (by decide +kernel)) rfl, gw_mem (List.mem_of_getElem? (i := 372) (by decide +kernel)) rfl, gw_mem (List.mem_of_getElem? (i := 39) (by decide +kernel)) rfl, cd_X5_withdraw, by decide, by decide, by decide +kernel, _, _, rfl⟩
theorem ml_X5_143 : SL RX5 143 yX1_paper cX1_paper 2 (some .int) 2 := ⟨gw_mem (List.mem_of_getElem? (i := 374) (by decide +kernel)) rfl, gw_mem (List.mem_of_getElem? (i := 318) (by decide +kernel)) rfl, gw_mem (List.mem_of_getElem? (i := 42) (by decide +kernel)) rfl, cd_X1_paper, by decide, by decide, by decide +kernel⟩
theorem ml_X5_146 : VL RX5 146 1 yX1_allPapers cX1_allPapers 1 (some .int) 0 := ⟨gw_mem (List.mem_of_getElem? (i := 375) (by decide +kernel)) rfl, gw_mem (List.mem_of_getElem? (i := 376) (by decide +kernel)) rfl, gw_mem (List.mem_of_getElem? (i := 377) (by decide +kernel)) rfl, gw_mem (List.mem_of_getElem? (i := 42) (by decide +kernel)) rfl, cd_X1_allPapers, by decide, by decide, by decide +kernel, _, _, rfl⟩
theorem ml_X5_149 : VL RX5 149 1 yX1_dropPaper cX1_dropPaper 2 none 1 := ⟨gw_mem (List.mem_of_getElem? (i := 379) (by decide +kernel)) rfl, gw_mem (List.mem_of_getElem? (i := 362) (by decide +kernel)) rfl, gw_mem (List.mem_of_getElem? (i := 363) (by decide +kernel)) rfl, gw_mem (List.mem_of_getElem? (i := 42) (by decide +kernel)) rfl, cd_X1_dropPaper, by decide, by decide, by decide +kernel, _, _, rfl⟩
theorem ml_L_56 : VL RL 56 5 yX5_prism cX5_prism 1 (some .int) 0 := ⟨gw_mem (List.mem_of_getElem? (i := 380) (by decide +kernel)) rfl, gw_mem (List.mem_of_getElem? (i := 381) (by decide +kernel)) rfl, gw_mem (List.mem_of_getElem? (i := 382) (by decide +kernel)) rfl, gw_mem (List.mem_of_getElem? (i := 39) (by decide +kernel)) rfl, cd_X5_prism, by decide, by decide, by decide +kernel, _, _, rfl⟩
theorem ml_L_60 : VL RL 60 5 yX5_tell cX5_tell 1 (some .int) 0 := ⟨gw_mem (List.mem_of_getElem? (i := 384) (by decide +kernel)) rfl, gw_mem (List.mem_of_getElem? (i := 385) (by decide +kernel)) rfl, gw_mem (List.mem_of_getElem? (i := 386) (by decide +kernel)) rfl, gw_mem (List.mem_of_getElem? (i := 39) (by decide +kernel)) rfl, cd_X5_tell, by decide, by decide, by decide +kernel, _, _, rfl⟩
theorem ml_L_64 : VL RL 64 5 yX5_undo cX5_undo 1 (some .int) 0 := ⟨gw_mem (List.mem_of_getElem? (i := 388) (by decide +kernel)) rfl, gw_mem (List.mem_of_getElem? (i := 389) (by decide +kernel)) rfl, gw_mem (List.mem_of_getElem? (i := 390) (by decide +kernel)) rfl, gw_mem (List.mem_of_getElem? (i := 39) (by decide +kernel)) rfl, cd_X5_undo, by decide, by decide, by decide +kernel, _, _, rfl⟩
theorem ml_X5_163 : VL RX5 163 0 yX0_takeBack cX0_takeBack 2 none 1 := ⟨gw_mem (List.mem_of_getElem? (i := 392) (by decide +kernel)) rfl, gw_mem (List.mem_of_getElem? (i := 393) (by decide +kernel)) rfl, gw_mem (List.mem_of_getElem? (i := 394) (by decide +kernel)) rfl, gw_mem (List.mem_of_getElem? (i := 43) (by decide +kernel)) rfl, cd_X0_takeBack, by decide, by decide, by decide +kernel, _, _, rfl⟩
theorem ml_L_68 : VL RL 68 5 yX5_fooled cX5_fooled 2 (some .int) 1 := ⟨gw_mem (List.mem_of_getElem? (i := 396) (by decide +kernel)) rfl, gw_mem (List.mem_of_getElem? (i := 397) (by decide +kernel)) rfl, gw_mem (List.mem_of_getElem? (i := 398) (by decide +kernel)) rfl, gw_mem (List.mem_of_getElem? (i := 39) (by decide +kernel)) rfl, cd_X5_fooled, by decide, by decide, by decide +kernel, _, _, rfl⟩
theorem ml_L_72 : VL RL 72 5 yX5_truly cX5_truly 2 (some .int) 1 := ⟨gw_mem (List.mem_of_getElem? (i := 400) (by decide +kernel)) rfl, gw_mem (List.mem_of_getElem? (i := 401) (by decide +kernel)) rfl, gw_mem (List.mem_of_getElem? (i := 402) (by decide +kernel)) rfl, gw_mem (List.mem_of_getElem? (i := 39) (by decide +kernel)) rfl, cd_X5_truly, by decide, by decide, by decide +kernel, _, _, rfl⟩
theorem ml_L_76 : VL RL 76 5 yX5_cover cX5_cover 5 (some .int) 0 := ⟨gw_mem (List.mem_of_getElem? (i := 404) (by decide +kernel)) rfl, gw_mem (List.mem_of_getElem? (i := 405) (by decide +kernel)) rfl, gw_mem (List.mem_of_getElem? (i := 406) (by decide +kernel)) rfl, gw_mem (List.mem_of_getElem? (i := 39) (by decide +kernel)) rfl, cd_X5_cover, by decide, by decide, by decide +kernel, _, _, rfl⟩
theorem ml_X5_170 : VL RX5 170 3 yX3_allReaders cX3_allReaders 1 (some .int) 0 := ⟨gw_mem (List.mem_of_getElem? (i := 408) (by decide +kernel)) rfl, gw_mem (List.mem_of_getElem? (i := 409) (by decide +kernel)) rfl, gw_mem (List.mem_of_getElem? (i := 410) (by decide +kernel)) rfl, gw_mem (List.mem_of_getElem? (i := 41) (by decide +kernel)) rfl, cd_X3_allReaders, by decide, by decide, by decide +kernel, _, _, rfl⟩
theorem ml_X5_173 : VL RX5 173 3 yX3_isBright cX3_isBright 2 (some .boolean) 1 := ⟨gw_mem (List.mem_of_getElem? (i := 412) (by decide +kernel)) rfl, gw_mem (List.mem_of_getElem? (i := 413) (by decide +kernel)) rfl, gw_mem (List.mem_of_getElem? (i := 414) (by decide +kernel)) rfl, gw_mem (List.mem_of_getElem? (i := 41) (by decide +kernel)) rfl, cd_X3_isBright, by decide, by decide, by decide +kernel, _, _, rfl⟩
theorem ml_X5_176 : SL RX5 176 yJ6_bitCount_0f7a4 cJ6_bitCount_0f7a4 1 (some .int) 1 := ⟨gw_mem (List.mem_of_getElem? (i := 416) (by decide +kernel)) rfl, gw_mem (List.mem_of_getElem? (i := 417) (by decide +kernel)) rfl, gw_mem (List.mem_of_getElem? (i := 47) (by decide +kernel)) rfl, cd_J6_bitCount_0f7a4, by decide, by decide, by decide +kernel⟩
theorem ml_X5_181 : VL RX5 181 5 yX5_seesAllBright cX5_seesAllBright 3 (some .boolean) 1 := ⟨gw_mem (List.mem_of_getElem? (i := 422) (by decide +kernel)) rfl, gw_mem (List.mem_of_getElem? (i := 424) (by decide +kernel)) rfl, gw_mem (List.mem_of_getElem? (i := 6) (by decide +kernel)) rfl, gw_mem (List.mem_of_getElem? (i := 39) (by decide +kernel)) rfl, cd_X5_seesAllBright, by decide, by decide, by decide +kernel, _, _, rfl⟩
theorem ml_L_80 : VL RL 80 5 yX5_wrong cX5_wrong 6 (some .int) 1 := ⟨gw_mem (List.mem_of_getElem? (i := 426) (by decide +kernel)) rfl, gw_mem (List.mem_of_getElem? (i := 427) (by decide +kernel)) rfl, gw_mem (List.mem_of_getElem? (i := 428) (by decide +kernel)) rfl, gw_mem (List.mem_of_getElem? (i := 39) (by decide +kernel)) rfl, cd_X5_wrong, by decide, by decide, by decide +kernel, _, _, rfl⟩
theorem ml_X5_184 : SL RX5 184 yX1_onSample cX1_onSample 2 (some .int) 2 := ⟨gw_mem (List.mem_of_getElem? (i := 430) (by decide +kernel)) rfl, gw_mem (List.mem_of_getElem? (i := 431) (by decide +kernel)) rfl, gw_mem (List.mem_of_getElem? (i := 42) (by decide +kernel)) rfl, cd_X1_onSample, by decide, by decide, by decide +kernel⟩
theorem ml_L_85 : VL RL 85 5 yX5_judge cX5_judge 5 (some .int) 2 := ⟨gw_mem (List.mem_of_getElem? (i := 434) (by decide +kernel)) rfl, gw_mem (List.mem_of_getElem? (i := 435) (by decide +kernel)) rfl, gw_mem (List.mem_of_getElem? (i := 436) (by decide +kernel)) rfl, gw_mem (List.mem_of_getElem? (i := 39) (by decide +kernel)) rfl, cd_X5_judge, by decide, by decide, by decide +kernel, _, _, rfl⟩
theorem ml_X5_187 : SL RX5 187 yX5_hasFigures cX5_hasFigures 2 (some .boolean) 2 := ⟨gw_mem (List.mem_of_getElem? (i := 438) (by decide +kernel)) rfl, gw_mem (List.mem_of_getElem? (i := 439) (by decide +kernel)) rfl, gw_mem (List.mem_of_getElem? (i := 39) (by decide +kernel)) rfl, cd_X5_hasFigures, by decide, by decide, by decide +kernel⟩
theorem ml_X5_190 : VL RX5 190 1 yX1_copyFrom cX1_copyFrom 2 none 1 := ⟨gw_mem (List.mem_of_getElem? (i := 443) (by decide +kernel)) rfl, gw_mem (List.mem_of_getElem? (i := 344) (by decide +kernel)) rfl, gw_mem (List.mem_of_getElem? (i := 345) (by decide +kernel)) rfl, gw_mem (List.mem_of_getElem? (i := 42) (by decide +kernel)) rfl, cd_X1_copyFrom, by decide, by decide, by decide +kernel, _, _, rfl⟩
theorem ml_X5_193 : SL RX5 193 yX5_figure cX5_figure 2 (some .int) 2 := ⟨gw_mem (List.mem_of_getElem? (i := 444) (by decide +kernel)) rfl, gw_mem (List.mem_of_getElem? (i := 445) (by decide +kernel)) rfl, gw_mem (List.mem_of_getElem? (i := 39) (by decide +kernel)) rfl, cd_X5_figure, by decide, by decide, by decide +kernel⟩
theorem ml_X5_196 : VL RX5 196 5 yX5_standsOnTrial cX5_standsOnTrial 3 (some .boolean) 2 := ⟨gw_mem (List.mem_of_getElem? (i := 447) (by decide +kernel)) rfl, gw_mem (List.mem_of_getElem? (i := 449) (by decide +kernel)) rfl, gw_mem (List.mem_of_getElem? (i := 7) (by decide +kernel)) rfl, gw_mem (List.mem_of_getElem? (i := 39) (by decide +kernel)) rfl, cd_X5_standsOnTrial, by decide, by decide, by decide +kernel, _, _, rfl⟩
theorem ml_L_89 : VL RL 89 5 yX5_hear cX5_hear 5 (some .int) 4 := ⟨gw_mem (List.mem_of_getElem? (i := 451) (by decide +kernel)) rfl, gw_mem (List.mem_of_getElem? (i := 452) (by decide +kernel)) rfl, gw_mem (List.mem_of_getElem? (i := 453) (by decide +kernel)) rfl, gw_mem (List.mem_of_getElem? (i := 39) (by decide +kernel)) rfl, cd_X5_hear, by decide, by decide, by decide +kernel, _, _, rfl⟩
theorem ml_X5_199 : VL RX5 199 2 yX2_append cX2_append 5 (some .boolean) 4 := ⟨gw_mem (List.mem_of_getElem? (i := 455) (by decide +kernel)) rfl, gw_mem (List.mem_of_getElem? (i := 456) (by decide +kernel)) rfl, gw_mem (List.mem_of_getElem? (i := 457) (by decide +kernel)) rfl, gw_mem (List.mem_of_getElem? (i := 44) (by decide +kernel)) rfl, cd_X2_append, by decide, by decide, by decide +kernel, _, _, rfl⟩
theorem ml_L_94 : VL RL 94 5 yX5_unhear cX5_unhear 2 (some .int) 0 := ⟨gw_mem (List.mem_of_getElem? (i := 459) (by decide +kernel)) rfl, gw_mem (List.mem_of_getElem? (i := 460) (by decide +kernel)) rfl, gw_mem (List.mem_of_getElem? (i := 461) (by decide +kernel)) rfl, gw_mem (List.mem_of_getElem? (i := 39) (by decide +kernel)) rfl, cd_X5_unhear, by decide, by decide, by decide +kernel, _, _, rfl⟩
theorem ml_L_98 : VL RL 98 5 yX5_expect cX5_expect 4 (some .int) 1 := ⟨gw_mem (List.mem_of_getElem? (i := 463) (by decide +kernel)) rfl, gw_mem (List.mem_of_getElem? (i := 464) (by decide +kernel)) rfl, gw_mem (List.mem_of_getElem? (i := 465) (by decide +kernel)) rfl, gw_mem (List.mem_of_getElem? (i := 39) (by decide +kernel)) rfl, cd_X5_expect, by decide, by decide, by decide +kernel, _, _, rfl⟩
theorem ml_X5_203 : VL RX5 203 2 yX2_agrees cX2_agrees 6 (some .boolean) 3 := ⟨gw_mem (List.mem_of_getElem? (i := 467) (by decide +kernel)) rfl, gw_mem (List.mem_of_getElem? (i := 468) (by decide +kernel)) rfl, gw_mem (List.mem_of_getElem? (i := 469) (by decide +kernel)) rfl, gw_mem (List.mem_of_getElem? (i := 44) (by decide +kernel)) rfl, cd_X2_agrees, by decide, by decide, by decide +kernel, _, _, rfl⟩
theorem ml_X2_29 : VL RX2 29 3 yX3_hasSample cX3_hasSample 2 (some .boolean) 1 := ⟨gw_mem (List.mem_of_getElem? (i := 471) (by decide +kernel)) rfl, gw_mem (List.mem_of_getElem? (i := 286) (by decide +kernel)) rfl, gw_mem (List.mem_of_getElem? (i := 287) (by decide +kernel)) rfl, gw_mem (List.mem_of_getElem? (i := 41) (by decide +kernel)) rfl, cd_X3_hasSample, by decide, by decide, by decide +kernel, _, _, rfl⟩
theorem ml_X2_35 : VL RX2 35 3 yX3_seen cX3_seen 8 (some .int) 6 := ⟨gw_mem (List.mem_of_getElem? (i := 472) (by decide +kernel)) rfl, gw_mem (List.mem_of_getElem? (i := 298) (by decide +kernel)) rfl, gw_mem (List.mem_of_getElem? (i := 299) (by decide +kernel)) rfl, gw_mem (List.mem_of_getElem? (i := 41) (by decide +kernel)) rfl, cd_X3_seen, by decide, by decide, by decide +kernel, _, _, rfl⟩
theorem ml_X2_39 : VL RX2 39 3 yX3_saysYes cX3_saysYes 3 (some .boolean) 2 := ⟨gw_mem (List.mem_of_getElem? (i := 473) (by decide +kernel)) rfl, gw_mem (List.mem_of_getElem? (i := 311) (by decide +kernel)) rfl, gw_mem (List.mem_of_getElem? (i := 312) (by decide +kernel)) rfl, gw_mem (List.mem_of_getElem? (i := 41) (by decide +kernel)) rfl, cd_X3_saysYes, by decide, by decide, by decide +kernel, _, _, rfl⟩
theorem ml_L_102 : VL RL 102 5 yX5_gone cX5_gone 7 (some .int) 4 := ⟨gw_mem (List.mem_of_getElem? (i := 474) (by decide +kernel)) rfl, gw_mem (List.mem_of_getElem? (i := 475) (by decide +kernel)) rfl, gw_mem (List.mem_of_getElem? (i := 476) (by decide +kernel)) rfl, gw_mem (List.mem_of_getElem? (i := 39) (by decide +kernel)) rfl, cd_X5_gone, by decide, by decide, by decide +kernel, _, _, rfl⟩
theorem ml_X5_206 : VL RX5 206 5 yX5_saidIfGoneFrom cX5_saidIfGoneFrom 9 (some .int) 4 := ⟨gw_mem (List.mem_of_getElem? (i := 478) (by decide +kernel)) rfl, gw_mem (List.mem_of_getElem? (i := 480) (by decide +kernel)) rfl, gw_mem (List.mem_of_getElem? (i := 8) (by decide +kernel)) rfl, gw_mem (List.mem_of_getElem? (i := 39) (by decide +kernel)) rfl, cd_X5_saidIfGoneFrom, by decide, by decide, by decide +kernel, _, _, rfl⟩
theorem ml_X5_263 : VL RX5 263 3 yX3_expectsOf cX3_expectsOf 2 (some .int) 1 := ⟨gw_mem (List.mem_of_getElem? (i := 482) (by decide +kernel)) rfl, gw_mem (List.mem_of_getElem? (i := 330) (by decide +kernel)) rfl, gw_mem (List.mem_of_getElem? (i := 331) (by decide +kernel)) rfl, gw_mem (List.mem_of_getElem? (i := 41) (by decide +kernel)) rfl, cd_X3_expectsOf, by decide, by decide, by decide +kernel, _, _, rfl⟩
theorem ml_L_106 : VL RL 106 5 yX5_share cX5_share 6 (some .int) 2 := ⟨gw_mem (List.mem_of_getElem? (i := 483) (by decide +kernel)) rfl, gw_mem (List.mem_of_getElem? (i := 484) (by decide +kernel)) rfl, gw_mem (List.mem_of_getElem? (i := 485) (by decide +kernel)) rfl, gw_mem (List.mem_of_getElem? (i := 39) (by decide +kernel)) rfl, cd_X5_share, by decide, by decide, by decide +kernel, _, _, rfl⟩
theorem ml_X5_210 : VL RX5 210 5 yX5_sayingRight cX5_sayingRight 3 (some .int) 1 := ⟨gw_mem (List.mem_of_getElem? (i := 487) (by decide +kernel)) rfl, gw_mem (List.mem_of_getElem? (i := 489) (by decide +kernel)) rfl, gw_mem (List.mem_of_getElem? (i := 9) (by decide +kernel)) rfl, gw_mem (List.mem_of_getElem? (i := 39) (by decide +kernel)) rfl, cd_X5_sayingRight, by decide, by decide, by decide +kernel, _, _, rfl⟩
theorem ml_X5_213 : VL RX5 213 5 yX5_ordersBehind cX5_ordersBehind 3 (some .int) 1 := ⟨gw_mem (List.mem_of_getElem? (i := 491) (by decide +kernel)) rfl, gw_mem (List.mem_of_getElem? (i := 493) (by decide +kernel)) rfl, gw_mem (List.mem_of_getElem? (i := 10) (by decide +kernel)) rfl, gw_mem (List.mem_of_getElem? (i := 39) (by decide +kernel)) rfl, cd_X5_ordersBehind, by decide, by decide, by decide +kernel, _, _, rfl⟩
theorem ml_X5_219 : SL RX5 219 yX5_factorial cX5_factorial 1 (some .int) 1 := ⟨gw_mem (List.mem_of_getElem? (i := 495) (by decide +kernel)) rfl, gw_mem (List.mem_of_getElem? (i := 496) (by decide +kernel)) rfl, gw_mem (List.mem_of_getElem? (i := 39) (by decide +kernel)) rfl, cd_X5_factorial, by decide, by decide, by decide +kernel⟩
theorem ml_X5_216 : VL RX5 216 5 yX5_rightByMost cX5_rightByMost 4 (some .int) 1 := ⟨gw_mem (List.mem_of_getElem? (i := 500) (by decide +kernel)) rfl, gw_mem (List.mem_of_getElem? (i := 502) (by decide +kernel)) rfl, gw_mem (List.mem_of_getElem? (i := 11) (by decide +kernel)) rfl, gw_mem (List.mem_of_getElem? (i := 39) (by decide +kernel)) rfl, cd_X5_rightByMost, by decide, by decide, by decide +kernel, _, _, rfl⟩
theorem ml_X5_222 : SL RX5 222 yX5_fraction cX5_fraction 4 (some .int) 3 := ⟨gw_mem (List.mem_of_getElem? (i := 504) (by decide +kernel)) rfl, gw_mem (List.mem_of_getElem? (i := 505) (by decide +kernel)) rfl, gw_mem (List.mem_of_getElem? (i := 39) (by decide +kernel)) rfl, cd_X5_fraction, by decide, by decide, by decide +kernel⟩
theorem ml_X5_273 : SL RX5 273 yJ9_abs_0f7a4 cJ9_abs_0f7a4 1 (some .int) 1 := ⟨gw_mem (List.mem_of_getElem? (i := 507) (by decide +kernel)) rfl, gw_mem (List.mem_of_getElem? (i := 508) (by decide +kernel)) rfl, gw_mem (List.mem_of_getElem? (i := 46) (by decide +kernel)) rfl, cd_J9_abs_0f7a4, by decide, by decide, by decide +kernel⟩
theorem ml_X5_278 : SL RX5 278 yX5_commonDivisor cX5_commonDivisor 6 (some .int) 2 := ⟨gw_mem (List.mem_of_getElem? (i := 510) (by decide +kernel)) rfl, gw_mem (List.mem_of_getElem? (i := 511) (by decide +kernel)) rfl, gw_mem (List.mem_of_getElem? (i := 39) (by decide +kernel)) rfl, cd_X5_commonDivisor, by decide, by decide, by decide +kernel⟩
theorem ml_L_111 : VL RL 111 5 yX5_rests cX5_rests 11 (some .int) 4 := ⟨gw_mem (List.mem_of_getElem? (i := 513) (by decide +kernel)) rfl, gw_mem (List.mem_of_getElem? (i := 514) (by decide +kernel)) rfl, gw_mem (List.mem_of_getElem? (i := 515) (by decide +kernel)) rfl, gw_mem (List.mem_of_getElem? (i := 39) (by decide +kernel)) rfl, cd_X5_rests, by decide, by decide, by decide +kernel, _, _, rfl⟩
theorem ml_X5_226 : SL RX5 226 yX5_isContent cX5_isContent 4 (some .boolean) 4 := ⟨gw_mem (List.mem_of_getElem? (i := 517) (by decide +kernel)) rfl, gw_mem (List.mem_of_getElem? (i := 518) (by decide +kernel)) rfl, gw_mem (List.mem_of_getElem? (i := 39) (by decide +kernel)) rfl, cd_X5_isContent, by decide, by decide, by decide +kernel⟩
theorem ml_X5_266 : SL RX5 266 yX5_gain cX5_gain 4 (some .int) 4 := ⟨gw_mem (List.mem_of_getElem? (i := 520) (by decide +kernel)) rfl, gw_mem (List.mem_of_getElem? (i := 521) (by decide +kernel)) rfl, gw_mem (List.mem_of_getElem? (i := 39) (by decide +kernel)) rfl, cd_X5_gain, by decide, by decide, by decide +kernel⟩
theorem ml_L_115 : VL RL 115 5 yX5_flicker cX5_flicker 8 (some .int) 4 := ⟨gw_mem (List.mem_of_getElem? (i := 523) (by decide +kernel)) rfl, gw_mem (List.mem_of_getElem? (i := 524) (by decide +kernel)) rfl, gw_mem (List.mem_of_getElem? (i := 525) (by decide +kernel)) rfl, gw_mem (List.mem_of_getElem? (i := 39) (by decide +kernel)) rfl, cd_X5_flicker, by decide, by decide, by decide +kernel, _, _, rfl⟩
theorem ml_X5_229 : VL RX5 229 5 yX5_tenthsOfYes cX5_tenthsOfYes 5 (some .int) 3 := ⟨gw_mem (List.mem_of_getElem? (i := 527) (by decide +kernel)) rfl, gw_mem (List.mem_of_getElem? (i := 529) (by decide +kernel)) rfl, gw_mem (List.mem_of_getElem? (i := 12) (by decide +kernel)) rfl, gw_mem (List.mem_of_getElem? (i := 39) (by decide +kernel)) rfl, cd_X5_tenthsOfYes, by decide, by decide, by decide +kernel, _, _, rfl⟩
theorem ml_X5_233 : VL RX5 233 5 yX5_addToWays cX5_addToWays 3 none 1 := ⟨gw_mem (List.mem_of_getElem? (i := 531) (by decide +kernel)) rfl, gw_mem (List.mem_of_getElem? (i := 533) (by decide +kernel)) rfl, gw_mem (List.mem_of_getElem? (i := 13) (by decide +kernel)) rfl, gw_mem (List.mem_of_getElem? (i := 39) (by decide +kernel)) rfl, cd_X5_addToWays, by decide, by decide, by decide +kernel, _, _, rfl⟩
theorem ml_L_122 : VL RL 122 5 yX5_seed cX5_seed 5 (some .long) 1 := ⟨gw_mem (List.mem_of_getElem? (i := 535) (by decide +kernel)) rfl, gw_mem (List.mem_of_getElem? (i := 536) (by decide +kernel)) rfl, gw_mem (List.mem_of_getElem? (i := 537) (by decide +kernel)) rfl, gw_mem (List.mem_of_getElem? (i := 39) (by decide +kernel)) rfl, cd_X5_seed, by decide, by decide, by decide +kernel, _, _, rfl⟩
theorem ml_L_127 : VL RL 127 5 yX5_winters cX5_winters 3 (some .int) 1 := ⟨gw_mem (List.mem_of_getElem? (i := 539) (by decide +kernel)) rfl, gw_mem (List.mem_of_getElem? (i := 540) (by decide +kernel)) rfl, gw_mem (List.mem_of_getElem? (i := 541) (by decide +kernel)) rfl, gw_mem (List.mem_of_getElem? (i := 39) (by decide +kernel)) rfl, cd_X5_winters, by decide, by decide, by decide +kernel, _, _, rfl⟩
theorem ml_X5_246 : VL RX5 246 5 yX5_winterOnTrial cX5_winterOnTrial 2 none 1 := ⟨gw_mem (List.mem_of_getElem? (i := 546) (by decide +kernel)) rfl, gw_mem (List.mem_of_getElem? (i := 548) (by decide +kernel)) rfl, gw_mem (List.mem_of_getElem? (i := 14) (by decide +kernel)) rfl, gw_mem (List.mem_of_getElem? (i := 39) (by decide +kernel)) rfl, cd_X5_winterOnTrial, by decide, by decide, by decide +kernel, _, _, rfl⟩
theorem ml_X5_249 : VL RX5 249 1 yX1_rightPapers cX1_rightPapers 4 (some .int) 1 := ⟨gw_mem (List.mem_of_getElem? (i := 550) (by decide +kernel)) rfl, gw_mem (List.mem_of_getElem? (i := 551) (by decide +kernel)) rfl, gw_mem (List.mem_of_getElem? (i := 552) (by decide +kernel)) rfl, gw_mem (List.mem_of_getElem? (i := 42) (by decide +kernel)) rfl, cd_X1_rightPapers, by decide, by decide, by decide +kernel, _, _, rfl⟩
theorem ml_X1_48 : VL RX1 48 3 yX3_isBright cX3_isBright 2 (some .boolean) 1 := ⟨gw_mem (List.mem_of_getElem? (i := 554) (by decide +kernel)) rfl, gw_mem (List.mem_of_getElem? (i := 413) (by decide +kernel)) rfl, gw_mem (List.mem_of_getElem? (i := 414) (by decide +kernel)) rfl, gw_mem (List.mem_of_getElem? (i := 41) (by decide +kernel)) rfl, cd_X3_isBright, by decide, by decide, by decide +kernel, _, _, rfl⟩
theorem ml_X1_52 : SL RX1 52 yX1_onSample cX1_onSample 2 (some .int) 2 := ⟨gw_mem (List.mem_of_getElem? (i := 555) (by decide +kernel)) rfl, gw_mem (List.mem_of_getElem? (i := 431) (by decide +kernel)) rfl, gw_mem (List.mem_of_getElem? (i := 42) (by decide +kernel)) rfl, cd_X1_onSample, by decide, by decide, by decide +kernel⟩
theorem ml_X1_37 : SL RX1 37 yJ6_bitCount_0f7a4 cJ6_bitCount_0f7a4 1 (some .int) 1 := ⟨gw_mem (List.mem_of_getElem? (i := 556) (by decide +kernel)) rfl, gw_mem (List.mem_of_getElem? (i := 417) (by decide +kernel)) rfl, gw_mem (List.mem_of_getElem? (i := 47) (by decide +kernel)) rfl, cd_J6_bitCount_0f7a4, by decide, by decide, by decide +kernel⟩
theorem ml_L_131 : VL RL 131 5 yX5_keep cX5_keep 2 (some .int) 1 := ⟨gw_mem (List.mem_of_getElem? (i := 557) (by decide +kernel)) rfl, gw_mem (List.mem_of_getElem? (i := 558) (by decide +kernel)) rfl, gw_mem (List.mem_of_getElem? (i := 559) (by decide +kernel)) rfl, gw_mem (List.mem_of_getElem? (i := 39) (by decide +kernel)) rfl, cd_X5_keep, by decide, by decide, by decide +kernel, _, _, rfl⟩
theorem ml_X5_253 : VL RX5 253 1 yX1_paperCount cX1_paperCount 1 (some .int) 0 := ⟨gw_mem (List.mem_of_getElem? (i := 561) (by decide +kernel)) rfl, gw_mem (List.mem_of_getElem? (i := 562) (by decide +kernel)) rfl, gw_mem (List.mem_of_getElem? (i := 563) (by decide +kernel)) rfl, gw_mem (List.mem_of_getElem? (i := 42) (by decide +kernel)) rfl, cd_X1_paperCount, by decide, by decide, by decide +kernel, _, _, rfl⟩
theorem ml_X1_33 : VL RX1 33 1 yX1_allPapers cX1_allPapers 1 (some .int) 0 := ⟨gw_mem (List.mem_of_getElem? (i := 565) (by decide +kernel)) rfl, gw_mem (List.mem_of_getElem? (i := 376) (by decide +kernel)) rfl, gw_mem (List.mem_of_getElem? (i := 377) (by decide +kernel)) rfl, gw_mem (List.mem_of_getElem? (i := 42) (by decide +kernel)) rfl, cd_X1_allPapers, by decide, by decide, by decide +kernel, _, _, rfl⟩
theorem ml_L_135 : VL RL 135 5 yX5_again cX5_again 2 (some .int) 1 := ⟨gw_mem (List.mem_of_getElem? (i := 566) (by decide +kernel)) rfl, gw_mem (List.mem_of_getElem? (i := 567) (by decide +kernel)) rfl, gw_mem (List.mem_of_getElem? (i := 568) (by decide +kernel)) rfl, gw_mem (List.mem_of_getElem? (i := 39) (by decide +kernel)) rfl, cd_X5_again, by decide, by decide, by decide +kernel, _, _, rfl⟩
theorem ml_L_139 : VL RL 139 5 yX5_count cX5_count 2 (some .int) 1 := ⟨gw_mem (List.mem_of_getElem? (i := 570) (by decide +kernel)) rfl, gw_mem (List.mem_of_getElem? (i := 571) (by decide +kernel)) rfl, gw_mem (List.mem_of_getElem? (i := 572) (by decide +kernel)) rfl, gw_mem (List.mem_of_getElem? (i := 39) (by decide +kernel)) rfl, cd_X5_count, by decide, by decide, by decide +kernel, _, _, rfl⟩
theorem ml_L_17 : VL RL 17 6 yX6_write cX6_write 2 (some .int) 1 := ⟨gw_mem (List.mem_of_getElem? (i := 659) (by decide +kernel)) rfl, gw_mem (List.mem_of_getElem? (i := 660) (by decide +kernel)) rfl, gw_mem (List.mem_of_getElem? (i := 661) (by decide +kernel)) rfl, gw_mem (List.mem_of_getElem? (i := 45) (by decide +kernel)) rfl, cd_X6_write, by decide, by decide, by decide +kernel, _, _, rfl⟩
theorem ml_X6_58 : SL RX6 58 yX6_in cX6_in 6 (some .boolean) 3 := ⟨gw_mem (List.mem_of_getElem? (i := 664) (by decide +kernel)) rfl, gw_mem (List.mem_of_getElem? (i := 665) (by decide +kernel)) rfl, gw_mem (List.mem_of_getElem? (i := 45) (by decide +kernel)) rfl, cd_X6_in, by decide, by decide, by decide +kernel⟩
theorem ml_L_22 : VL RL 22 6 yX6_wipe cX6_wipe 2 (some .int) 0 := ⟨gw_mem (List.mem_of_getElem? (i := 667) (by decide +kernel)) rfl, gw_mem (List.mem_of_getElem? (i := 668) (by decide +kernel)) rfl, gw_mem (List.mem_of_getElem? (i := 669) (by decide +kernel)) rfl, gw_mem (List.mem_of_getElem? (i := 45) (by decide +kernel)) rfl, cd_X6_wipe, by decide, by decide, by decide +kernel, _, _, rfl⟩
theorem ml_L_26 : VL RL 26 6 yX6_fault cX6_fault 1 (some .int) 0 := ⟨gw_mem (List.mem_of_getElem? (i := 671) (by decide +kernel)) rfl, gw_mem (List.mem_of_getElem? (i := 672) (by decide +kernel)) rfl, gw_mem (List.mem_of_getElem? (i := 673) (by decide +kernel)) rfl, gw_mem (List.mem_of_getElem? (i := 45) (by decide +kernel)) rfl, cd_X6_fault, by decide, by decide, by decide +kernel, _, _, rfl⟩
theorem ml_X6_82 : VL RX6 82 6 yX6_readText cX6_readText 1 (some .int) 0 := ⟨gw_mem (List.mem_of_getElem? (i := 675) (by decide +kernel)) rfl, gw_mem (List.mem_of_getElem? (i := 677) (by decide +kernel)) rfl, gw_mem (List.mem_of_getElem? (i := 15) (by decide +kernel)) rfl, gw_mem (List.mem_of_getElem? (i := 45) (by decide +kernel)) rfl, cd_X6_readText, by decide, by decide, by decide +kernel, _, _, rfl⟩
theorem ml_X6_78 : VL RX6 78 6 yX6_figure cX6_figure 4 (some .int) 2 := ⟨gw_mem (List.mem_of_getElem? (i := 679) (by decide +kernel)) rfl, gw_mem (List.mem_of_getElem? (i := 681) (by decide +kernel)) rfl, gw_mem (List.mem_of_getElem? (i := 16) (by decide +kernel)) rfl, gw_mem (List.mem_of_getElem? (i := 45) (by decide +kernel)) rfl, cd_X6_figure, by decide, by decide, by decide +kernel, _, _, rfl⟩
theorem ml_L_30 : VL RL 30 6 yX6_room cX6_room 2 (some .int) 0 := ⟨gw_mem (List.mem_of_getElem? (i := 683) (by decide +kernel)) rfl, gw_mem (List.mem_of_getElem? (i := 684) (by decide +kernel)) rfl, gw_mem (List.mem_of_getElem? (i := 685) (by decide +kernel)) rfl, gw_mem (List.mem_of_getElem? (i := 45) (by decide +kernel)) rfl, cd_X6_room, by decide, by decide, by decide +kernel, _, _, rfl⟩
theorem ml_L_35 : VL RL 35 6 yX6_reader cX6_reader 3 (some .int) 2 := ⟨gw_mem (List.mem_of_getElem? (i := 687) (by decide +kernel)) rfl, gw_mem (List.mem_of_getElem? (i := 688) (by decide +kernel)) rfl, gw_mem (List.mem_of_getElem? (i := 689) (by decide +kernel)) rfl, gw_mem (List.mem_of_getElem? (i := 45) (by decide +kernel)) rfl, cd_X6_reader, by decide, by decide, by decide +kernel, _, _, rfl⟩
theorem ml_X6_111 : VL RX6 111 6 yX6_isReader cX6_isReader 2 (some .boolean) 1 := ⟨gw_mem (List.mem_of_getElem? (i := 691) (by decide +kernel)) rfl, gw_mem (List.mem_of_getElem? (i := 693) (by decide +kernel)) rfl, gw_mem (List.mem_of_getElem? (i := 17) (by decide +kernel)) rfl, gw_mem (List.mem_of_getElem? (i := 45) (by decide +kernel)) rfl, cd_X6_isReader, by decide, by decide, by decide +kernel, _, _, rfl⟩
theorem ml_L_39 : VL RL 39 6 yX6_sample cX6_sample 3 (some .int) 2 := ⟨gw_mem (List.mem_of_getElem? (i := 695) (by decide +kernel)) rfl, gw_mem (List.mem_of_getElem? (i := 696) (by decide +kernel)) rfl, gw_mem (List.mem_of_getElem? (i := 697) (by decide +kernel)) rfl, gw_mem (List.mem_of_getElem? (i := 45) (by decide +kernel)) rfl, cd_X6_sample, by decide, by decide, by decide +kernel, _, _, rfl⟩
theorem ml_X6_118 : VL RX6 118 6 yX6_isSample cX6_isSample 2 (some .boolean) 1 := ⟨gw_mem (List.mem_of_getElem? (i := 699) (by decide +kernel)) rfl, gw_mem (List.mem_of_getElem? (i := 701) (by decide +kernel)) rfl, gw_mem (List.mem_of_getElem? (i := 18) (by decide +kernel)) rfl, gw_mem (List.mem_of_getElem? (i := 45) (by decide +kernel)) rfl, cd_X6_isSample, by decide, by decide, by decide +kernel, _, _, rfl⟩
theorem ml_X6_121 : VL RX6 121 6 yX6_yesOn cX6_yesOn 4 (some .int) 1 := ⟨gw_mem (List.mem_of_getElem? (i := 703) (by decide +kernel)) rfl, gw_mem (List.mem_of_getElem? (i := 705) (by decide +kernel)) rfl, gw_mem (List.mem_of_getElem? (i := 19) (by decide +kernel)) rfl, gw_mem (List.mem_of_getElem? (i := 45) (by decide +kernel)) rfl, cd_X6_yesOn, by decide, by decide, by decide +kernel, _, _, rfl⟩
theorem ml_X6_107 : VL RX6 107 6 yX6_saysOn cX6_saysOn 4 (some .boolean) 3 := ⟨gw_mem (List.mem_of_getElem? (i := 707) (by decide +kernel)) rfl, gw_mem (List.mem_of_getElem? (i := 709) (by decide +kernel)) rfl, gw_mem (List.mem_of_getElem? (i := 20) (by decide +kernel)) rfl, gw_mem (List.mem_of_getElem? (i := 45) (by decide +kernel)) rfl, cd_X6_saysOn, by decide, by decide, by decide +kernel, _, _, rfl⟩
theorem ml_X6_99 : VL RX6 99 6 yX6_brightOn cX6_brightOn 5 (some .int) 3 := ⟨gw_mem (List.mem_of_getElem? (i := 711) (by decide +kernel)) rfl, gw_mem (List.mem_of_getElem? (i := 713) (by decide +kernel)) rfl, gw_mem (List.mem_of_getElem? (i := 21) (by decide +kernel)) rfl, gw_mem (List.mem_of_getElem? (i := 45) (by decide +kernel)) rfl, cd_X6_brightOn, by decide, by decide, by decide +kernel, _, _, rfl⟩
theorem ml_X6_95 : VL RX6 95 6 yX6_brightFor cX6_brightFor 9 (some .int) 5 := ⟨gw_mem (List.mem_of_getElem? (i := 715) (by decide +kernel)) rfl, gw_mem (List.mem_of_getElem? (i := 717) (by decide +kernel)) rfl, gw_mem (List.mem_of_getElem? (i := 22) (by decide +kernel)) rfl, gw_mem (List.mem_of_getElem? (i := 45) (by decide +kernel)) rfl, cd_X6_brightFor, by decide, by decide, by decide +kernel, _, _, rfl⟩
theorem ml_X6_103 : VL RX6 103 6 yX6_saysYes cX6_saysYes 3 (some .boolean) 2 := ⟨gw_mem (List.mem_of_getElem? (i := 719) (by decide +kernel)) rfl, gw_mem (List.mem_of_getElem? (i := 721) (by decide +kernel)) rfl, gw_mem (List.mem_of_getElem? (i := 23) (by decide +kernel)) rfl, gw_mem (List.mem_of_getElem? (i := 45) (by decide +kernel)) rfl, cd_X6_saysYes, by decide, by decide, by decide +kernel, _, _, rfl⟩
theorem ml_X6_125 : VL RX6 125 6 yX6_papersOn cX6_papersOn 5 (some .int) 2 := ⟨gw_mem (List.mem_of_getElem? (i := 723) (by decide +kernel)) rfl, gw_mem (List.mem_of_getElem? (i := 725) (by decide +kernel)) rfl, gw_mem (List.mem_of_getElem? (i := 24) (by decide +kernel)) rfl, gw_mem (List.mem_of_getElem? (i := 45) (by decide +kernel)) rfl, cd_X6_papersOn, by decide, by decide, by decide +kernel, _, _, rfl⟩
theorem ml_X6_115 : SL RX6 115 yX6_has cX6_has 2 (some .boolean) 2 := ⟨gw_mem (List.mem_of_getElem? (i := 727) (by decide +kernel)) rfl, gw_mem (List.mem_of_getElem? (i := 728) (by decide +kernel)) rfl, gw_mem (List.mem_of_getElem? (i := 45) (by decide +kernel)) rfl, cd_X6_has, by decide, by decide, by decide +kernel⟩
theorem ml_L_43 : VL RL 43 6 yX6_bright cX6_bright 3 (some .int) 2 := ⟨gw_mem (List.mem_of_getElem? (i := 730) (by decide +kernel)) rfl, gw_mem (List.mem_of_getElem? (i := 731) (by decide +kernel)) rfl, gw_mem (List.mem_of_getElem? (i := 732) (by decide +kernel)) rfl, gw_mem (List.mem_of_getElem? (i := 45) (by decide +kernel)) rfl, cd_X6_bright, by decide, by decide, by decide +kernel, _, _, rfl⟩
theorem ml_L_47 : VL RL 47 6 yX6_read cX6_read 3 (some .int) 2 := ⟨gw_mem (List.mem_of_getElem? (i := 734) (by decide +kernel)) rfl, gw_mem (List.mem_of_getElem? (i := 735) (by decide +kernel)) rfl, gw_mem (List.mem_of_getElem? (i := 736) (by decide +kernel)) rfl, gw_mem (List.mem_of_getElem? (i := 45) (by decide +kernel)) rfl, cd_X6_read, by decide, by decide, by decide +kernel, _, _, rfl⟩
theorem ml_X6_131 : VL RX6 131 6 yX6_keepAct cX6_keepAct 2 none 0 := ⟨gw_mem (List.mem_of_getElem? (i := 738) (by decide +kernel)) rfl, gw_mem (List.mem_of_getElem? (i := 740) (by decide +kernel)) rfl, gw_mem (List.mem_of_getElem? (i := 25) (by decide +kernel)) rfl, gw_mem (List.mem_of_getElem? (i := 45) (by decide +kernel)) rfl, cd_X6_keepAct, by decide, by decide, by decide +kernel, _, _, rfl⟩
theorem ml_X6_134 : VL RX6 134 6 yX6_readOn cX6_readOn 7 (some .boolean) 3 := ⟨gw_mem (List.mem_of_getElem? (i := 742) (by decide +kernel)) rfl, gw_mem (List.mem_of_getElem? (i := 744) (by decide +kernel)) rfl, gw_mem (List.mem_of_getElem? (i := 26) (by decide +kernel)) rfl, gw_mem (List.mem_of_getElem? (i := 45) (by decide +kernel)) rfl, cd_X6_readOn, by decide, by decide, by decide +kernel, _, _, rfl⟩
theorem ml_L_51 : VL RL 51 6 yX6_rest cX6_rest 3 (some .int) 1 := ⟨gw_mem (List.mem_of_getElem? (i := 746) (by decide +kernel)) rfl, gw_mem (List.mem_of_getElem? (i := 747) (by decide +kernel)) rfl, gw_mem (List.mem_of_getElem? (i := 748) (by decide +kernel)) rfl, gw_mem (List.mem_of_getElem? (i := 45) (by decide +kernel)) rfl, cd_X6_rest, by decide, by decide, by decide +kernel, _, _, rfl⟩
theorem ml_L_55 : VL RL 55 6 yX6_withdraw cX6_withdraw 5 (some .int) 2 := ⟨gw_mem (List.mem_of_getElem? (i := 750) (by decide +kernel)) rfl, gw_mem (List.mem_of_getElem? (i := 751) (by decide +kernel)) rfl, gw_mem (List.mem_of_getElem? (i := 752) (by decide +kernel)) rfl, gw_mem (List.mem_of_getElem? (i := 45) (by decide +kernel)) rfl, cd_X6_withdraw, by decide, by decide, by decide +kernel, _, _, rfl⟩
theorem ml_L_59 : VL RL 59 6 yX6_prism cX6_prism 1 (some .int) 0 := ⟨gw_mem (List.mem_of_getElem? (i := 754) (by decide +kernel)) rfl, gw_mem (List.mem_of_getElem? (i := 755) (by decide +kernel)) rfl, gw_mem (List.mem_of_getElem? (i := 756) (by decide +kernel)) rfl, gw_mem (List.mem_of_getElem? (i := 45) (by decide +kernel)) rfl, cd_X6_prism, by decide, by decide, by decide +kernel, _, _, rfl⟩
theorem ml_L_63 : VL RL 63 6 yX6_tell cX6_tell 1 (some .int) 0 := ⟨gw_mem (List.mem_of_getElem? (i := 758) (by decide +kernel)) rfl, gw_mem (List.mem_of_getElem? (i := 759) (by decide +kernel)) rfl, gw_mem (List.mem_of_getElem? (i := 760) (by decide +kernel)) rfl, gw_mem (List.mem_of_getElem? (i := 45) (by decide +kernel)) rfl, cd_X6_tell, by decide, by decide, by decide +kernel, _, _, rfl⟩
theorem ml_L_67 : VL RL 67 6 yX6_undo cX6_undo 2 (some .int) 0 := ⟨gw_mem (List.mem_of_getElem? (i := 762) (by decide +kernel)) rfl, gw_mem (List.mem_of_getElem? (i := 763) (by decide +kernel)) rfl, gw_mem (List.mem_of_getElem? (i := 764) (by decide +kernel)) rfl, gw_mem (List.mem_of_getElem? (i := 45) (by decide +kernel)) rfl, cd_X6_undo, by decide, by decide, by decide +kernel, _, _, rfl⟩
theorem ml_L_71 : VL RL 71 6 yX6_fooled cX6_fooled 4 (some .int) 1 := ⟨gw_mem (List.mem_of_getElem? (i := 766) (by decide +kernel)) rfl, gw_mem (List.mem_of_getElem? (i := 767) (by decide +kernel)) rfl, gw_mem (List.mem_of_getElem? (i := 768) (by decide +kernel)) rfl, gw_mem (List.mem_of_getElem? (i := 45) (by decide +kernel)) rfl, cd_X6_fooled, by decide, by decide, by decide +kernel, _, _, rfl⟩
theorem ml_L_75 : VL RL 75 6 yX6_truly cX6_truly 6 (some .int) 1 := ⟨gw_mem (List.mem_of_getElem? (i := 770) (by decide +kernel)) rfl, gw_mem (List.mem_of_getElem? (i := 771) (by decide +kernel)) rfl, gw_mem (List.mem_of_getElem? (i := 772) (by decide +kernel)) rfl, gw_mem (List.mem_of_getElem? (i := 45) (by decide +kernel)) rfl, cd_X6_truly, by decide, by decide, by decide +kernel, _, _, rfl⟩
theorem ml_L_79 : VL RL 79 6 yX6_cover cX6_cover 4 (some .int) 0 := ⟨gw_mem (List.mem_of_getElem? (i := 774) (by decide +kernel)) rfl, gw_mem (List.mem_of_getElem? (i := 775) (by decide +kernel)) rfl, gw_mem (List.mem_of_getElem? (i := 776) (by decide +kernel)) rfl, gw_mem (List.mem_of_getElem? (i := 45) (by decide +kernel)) rfl, cd_X6_cover, by decide, by decide, by decide +kernel, _, _, rfl⟩
theorem ml_X6_137 : SL RX6 137 yX6_ones cX6_ones 3 (some .int) 1 := ⟨gw_mem (List.mem_of_getElem? (i := 778) (by decide +kernel)) rfl, gw_mem (List.mem_of_getElem? (i := 779) (by decide +kernel)) rfl, gw_mem (List.mem_of_getElem? (i := 45) (by decide +kernel)) rfl, cd_X6_ones, by decide, by decide, by decide +kernel⟩
theorem ml_X6_140 : VL RX6 140 6 yX6_covers cX6_covers 5 (some .boolean) 1 := ⟨gw_mem (List.mem_of_getElem? (i := 781) (by decide +kernel)) rfl, gw_mem (List.mem_of_getElem? (i := 783) (by decide +kernel)) rfl, gw_mem (List.mem_of_getElem? (i := 27) (by decide +kernel)) rfl, gw_mem (List.mem_of_getElem? (i := 45) (by decide +kernel)) rfl, cd_X6_covers, by decide, by decide, by decide +kernel, _, _, rfl⟩
theorem ml_L_84 : VL RL 84 6 yX6_wrong cX6_wrong 8 (some .int) 1 := ⟨gw_mem (List.mem_of_getElem? (i := 785) (by decide +kernel)) rfl, gw_mem (List.mem_of_getElem? (i := 786) (by decide +kernel)) rfl, gw_mem (List.mem_of_getElem? (i := 787) (by decide +kernel)) rfl, gw_mem (List.mem_of_getElem? (i := 45) (by decide +kernel)) rfl, cd_X6_wrong, by decide, by decide, by decide +kernel, _, _, rfl⟩
theorem ml_L_88 : VL RL 88 6 yX6_judge cX6_judge 5 (some .int) 2 := ⟨gw_mem (List.mem_of_getElem? (i := 789) (by decide +kernel)) rfl, gw_mem (List.mem_of_getElem? (i := 790) (by decide +kernel)) rfl, gw_mem (List.mem_of_getElem? (i := 791) (by decide +kernel)) rfl, gw_mem (List.mem_of_getElem? (i := 45) (by decide +kernel)) rfl, cd_X6_judge, by decide, by decide, by decide +kernel, _, _, rfl⟩
theorem ml_X6_145 : SL RX6 145 yX6_power cX6_power 4 (some .int) 2 := ⟨gw_mem (List.mem_of_getElem? (i := 794) (by decide +kernel)) rfl, gw_mem (List.mem_of_getElem? (i := 795) (by decide +kernel)) rfl, gw_mem (List.mem_of_getElem? (i := 45) (by decide +kernel)) rfl, cd_X6_power, by decide, by decide, by decide +kernel⟩
theorem ml_X6_148 : VL RX6 148 6 yX6_layTrial cX6_layTrial 2 none 0 := ⟨gw_mem (List.mem_of_getElem? (i := 797) (by decide +kernel)) rfl, gw_mem (List.mem_of_getElem? (i := 799) (by decide +kernel)) rfl, gw_mem (List.mem_of_getElem? (i := 28) (by decide +kernel)) rfl, gw_mem (List.mem_of_getElem? (i := 45) (by decide +kernel)) rfl, cd_X6_layTrial, by decide, by decide, by decide +kernel, _, _, rfl⟩
theorem ml_X6_151 : VL RX6 151 6 yX6_tryThing cX6_tryThing 4 (some .boolean) 2 := ⟨gw_mem (List.mem_of_getElem? (i := 801) (by decide +kernel)) rfl, gw_mem (List.mem_of_getElem? (i := 803) (by decide +kernel)) rfl, gw_mem (List.mem_of_getElem? (i := 29) (by decide +kernel)) rfl, gw_mem (List.mem_of_getElem? (i := 45) (by decide +kernel)) rfl, cd_X6_tryThing, by decide, by decide, by decide +kernel, _, _, rfl⟩
theorem ml_L_93 : VL RL 93 6 yX6_hear cX6_hear 5 (some .int) 4 := ⟨gw_mem (List.mem_of_getElem? (i := 805) (by decide +kernel)) rfl, gw_mem (List.mem_of_getElem? (i := 806) (by decide +kernel)) rfl, gw_mem (List.mem_of_getElem? (i := 807) (by decide +kernel)) rfl, gw_mem (List.mem_of_getElem? (i := 45) (by decide +kernel)) rfl, cd_X6_hear, by decide, by decide, by decide +kernel, _, _, rfl⟩
theorem ml_L_97 : VL RL 97 6 yX6_unhear cX6_unhear 2 (some .int) 0 := ⟨gw_mem (List.mem_of_getElem? (i := 809) (by decide +kernel)) rfl, gw_mem (List.mem_of_getElem? (i := 810) (by decide +kernel)) rfl, gw_mem (List.mem_of_getElem? (i := 811) (by decide +kernel)) rfl, gw_mem (List.mem_of_getElem? (i := 45) (by decide +kernel)) rfl, cd_X6_unhear, by decide, by decide, by decide +kernel, _, _, rfl⟩
theorem ml_L_101 : VL RL 101 6 yX6_expect cX6_expect 4 (some .int) 1 := ⟨gw_mem (List.mem_of_getElem? (i := 813) (by decide +kernel)) rfl, gw_mem (List.mem_of_getElem? (i := 814) (by decide +kernel)) rfl, gw_mem (List.mem_of_getElem? (i := 815) (by decide +kernel)) rfl, gw_mem (List.mem_of_getElem? (i := 45) (by decide +kernel)) rfl, cd_X6_expect, by decide, by decide, by decide +kernel, _, _, rfl⟩
theorem ml_X6_157 : VL RX6 157 6 yX6_mayExpect cX6_mayExpect 6 (some .boolean) 2 := ⟨gw_mem (List.mem_of_getElem? (i := 817) (by decide +kernel)) rfl, gw_mem (List.mem_of_getElem? (i := 819) (by decide +kernel)) rfl, gw_mem (List.mem_of_getElem? (i := 30) (by decide +kernel)) rfl, gw_mem (List.mem_of_getElem? (i := 45) (by decide +kernel)) rfl, cd_X6_mayExpect, by decide, by decide, by decide +kernel, _, _, rfl⟩
theorem ml_L_105 : VL RL 105 6 yX6_gone cX6_gone 7 (some .int) 4 := ⟨gw_mem (List.mem_of_getElem? (i := 821) (by decide +kernel)) rfl, gw_mem (List.mem_of_getElem? (i := 822) (by decide +kernel)) rfl, gw_mem (List.mem_of_getElem? (i := 823) (by decide +kernel)) rfl, gw_mem (List.mem_of_getElem? (i := 45) (by decide +kernel)) rfl, cd_X6_gone, by decide, by decide, by decide +kernel, _, _, rfl⟩
theorem ml_X6_160 : VL RX6 160 6 yX6_sampleIn cX6_sampleIn 4 (some .int) 3 := ⟨gw_mem (List.mem_of_getElem? (i := 826) (by decide +kernel)) rfl, gw_mem (List.mem_of_getElem? (i := 828) (by decide +kernel)) rfl, gw_mem (List.mem_of_getElem? (i := 31) (by decide +kernel)) rfl, gw_mem (List.mem_of_getElem? (i := 45) (by decide +kernel)) rfl, cd_X6_sampleIn, by decide, by decide, by decide +kernel, _, _, rfl⟩
theorem ml_X6_165 : VL RX6 165 6 yX6_isGone cX6_isGone 10 (some .boolean) 5 := ⟨gw_mem (List.mem_of_getElem? (i := 830) (by decide +kernel)) rfl, gw_mem (List.mem_of_getElem? (i := 832) (by decide +kernel)) rfl, gw_mem (List.mem_of_getElem? (i := 32) (by decide +kernel)) rfl, gw_mem (List.mem_of_getElem? (i := 45) (by decide +kernel)) rfl, cd_X6_isGone, by decide, by decide, by decide +kernel, _, _, rfl⟩
theorem ml_L_110 : VL RL 110 6 yX6_share cX6_share 6 (some .int) 2 := ⟨gw_mem (List.mem_of_getElem? (i := 834) (by decide +kernel)) rfl, gw_mem (List.mem_of_getElem? (i := 835) (by decide +kernel)) rfl, gw_mem (List.mem_of_getElem? (i := 836) (by decide +kernel)) rfl, gw_mem (List.mem_of_getElem? (i := 45) (by decide +kernel)) rfl, cd_X6_share, by decide, by decide, by decide +kernel, _, _, rfl⟩
theorem ml_X6_169 : SL RX6 169 yX6_factorial cX6_factorial 3 (some .int) 1 := ⟨gw_mem (List.mem_of_getElem? (i := 838) (by decide +kernel)) rfl, gw_mem (List.mem_of_getElem? (i := 839) (by decide +kernel)) rfl, gw_mem (List.mem_of_getElem? (i := 45) (by decide +kernel)) rfl, cd_X6_factorial, by decide, by decide, by decide +kernel⟩
theorem ml_X6_172 : VL RX6 172 6 yX6_rightBy cX6_rightBy 6 (some .int) 1 := ⟨gw_mem (List.mem_of_getElem? (i := 841) (by decide +kernel)) rfl, gw_mem (List.mem_of_getElem? (i := 843) (by decide +kernel)) rfl, gw_mem (List.mem_of_getElem? (i := 33) (by decide +kernel)) rfl, gw_mem (List.mem_of_getElem? (i := 45) (by decide +kernel)) rfl, cd_X6_rightBy, by decide, by decide, by decide +kernel, _, _, rfl⟩
theorem ml_X6_175 : SL RX6 175 yX6_common cX6_common 5 (some .int) 2 := ⟨gw_mem (List.mem_of_getElem? (i := 845) (by decide +kernel)) rfl, gw_mem (List.mem_of_getElem? (i := 846) (by decide +kernel)) rfl, gw_mem (List.mem_of_getElem? (i := 45) (by decide +kernel)) rfl, cd_X6_common, by decide, by decide, by decide +kernel⟩
theorem ml_L_114 : VL RL 114 6 yX6_rests cX6_rests 8 (some .int) 4 := ⟨gw_mem (List.mem_of_getElem? (i := 848) (by decide +kernel)) rfl, gw_mem (List.mem_of_getElem? (i := 849) (by decide +kernel)) rfl, gw_mem (List.mem_of_getElem? (i := 850) (by decide +kernel)) rfl, gw_mem (List.mem_of_getElem? (i := 45) (by decide +kernel)) rfl, cd_X6_rests, by decide, by decide, by decide +kernel, _, _, rfl⟩
theorem ml_X6_186 : VL RX6 186 6 yX6_isRest cX6_isRest 6 (some .boolean) 5 := ⟨gw_mem (List.mem_of_getElem? (i := 852) (by decide +kernel)) rfl, gw_mem (List.mem_of_getElem? (i := 854) (by decide +kernel)) rfl, gw_mem (List.mem_of_getElem? (i := 34) (by decide +kernel)) rfl, gw_mem (List.mem_of_getElem? (i := 45) (by decide +kernel)) rfl, cd_X6_isRest, by decide, by decide, by decide +kernel, _, _, rfl⟩
theorem ml_X6_182 : VL RX6 182 6 yX6_gain cX6_gain 8 (some .int) 5 := ⟨gw_mem (List.mem_of_getElem? (i := 856) (by decide +kernel)) rfl, gw_mem (List.mem_of_getElem? (i := 858) (by decide +kernel)) rfl, gw_mem (List.mem_of_getElem? (i := 35) (by decide +kernel)) rfl, gw_mem (List.mem_of_getElem? (i := 45) (by decide +kernel)) rfl, cd_X6_gain, by decide, by decide, by decide +kernel, _, _, rfl⟩
theorem ml_X6_178 : VL RX6 178 6 yX6_isRight cX6_isRight 3 (some .boolean) 2 := ⟨gw_mem (List.mem_of_getElem? (i := 860) (by decide +kernel)) rfl, gw_mem (List.mem_of_getElem? (i := 862) (by decide +kernel)) rfl, gw_mem (List.mem_of_getElem? (i := 36) (by decide +kernel)) rfl, gw_mem (List.mem_of_getElem? (i := 45) (by decide +kernel)) rfl, cd_X6_isRight, by decide, by decide, by decide +kernel, _, _, rfl⟩
theorem ml_L_119 : VL RL 119 6 yX6_flicker cX6_flicker 11 (some .int) 4 := ⟨gw_mem (List.mem_of_getElem? (i := 864) (by decide +kernel)) rfl, gw_mem (List.mem_of_getElem? (i := 865) (by decide +kernel)) rfl, gw_mem (List.mem_of_getElem? (i := 866) (by decide +kernel)) rfl, gw_mem (List.mem_of_getElem? (i := 45) (by decide +kernel)) rfl, cd_X6_flicker, by decide, by decide, by decide +kernel, _, _, rfl⟩
theorem ml_L_126 : VL RL 126 6 yX6_seed cX6_seed 5 (some .long) 1 := ⟨gw_mem (List.mem_of_getElem? (i := 870) (by decide +kernel)) rfl, gw_mem (List.mem_of_getElem? (i := 871) (by decide +kernel)) rfl, gw_mem (List.mem_of_getElem? (i := 872) (by decide +kernel)) rfl, gw_mem (List.mem_of_getElem? (i := 45) (by decide +kernel)) rfl, cd_X6_seed, by decide, by decide, by decide +kernel, _, _, rfl⟩
theorem ml_L_130 : VL RL 130 6 yX6_winters cX6_winters 5 (some .int) 1 := ⟨gw_mem (List.mem_of_getElem? (i := 874) (by decide +kernel)) rfl, gw_mem (List.mem_of_getElem? (i := 875) (by decide +kernel)) rfl, gw_mem (List.mem_of_getElem? (i := 876) (by decide +kernel)) rfl, gw_mem (List.mem_of_getElem? (i := 45) (by decide +kernel)) rfl, cd_X6_winters, by decide, by decide, by decide +kernel, _, _, rfl⟩
theorem ml_X6_205 : VL RX6 205 6 yX6_rightOn cX6_rightOn 5 (some .int) 1 := ⟨gw_mem (List.mem_of_getElem? (i := 882) (by decide +kernel)) rfl, gw_mem (List.mem_of_getElem? (i := 884) (by decide +kernel)) rfl, gw_mem (List.mem_of_getElem? (i := 37) (by decide +kernel)) rfl, gw_mem (List.mem_of_getElem? (i := 45) (by decide +kernel)) rfl, cd_X6_rightOn, by decide, by decide, by decide +kernel, _, _, rfl⟩
theorem ml_L_134 : VL RL 134 6 yX6_keep cX6_keep 3 (some .int) 1 := ⟨gw_mem (List.mem_of_getElem? (i := 886) (by decide +kernel)) rfl, gw_mem (List.mem_of_getElem? (i := 887) (by decide +kernel)) rfl, gw_mem (List.mem_of_getElem? (i := 888) (by decide +kernel)) rfl, gw_mem (List.mem_of_getElem? (i := 45) (by decide +kernel)) rfl, cd_X6_keep, by decide, by decide, by decide +kernel, _, _, rfl⟩
theorem ml_L_138 : VL RL 138 6 yX6_again cX6_again 3 (some .int) 1 := ⟨gw_mem (List.mem_of_getElem? (i := 890) (by decide +kernel)) rfl, gw_mem (List.mem_of_getElem? (i := 891) (by decide +kernel)) rfl, gw_mem (List.mem_of_getElem? (i := 892) (by decide +kernel)) rfl, gw_mem (List.mem_of_getElem? (i := 45) (by decide +kernel)) rfl, cd_X6_again, by decide, by decide, by decide +kernel, _, _, rfl⟩
theorem ml_L_142 : VL RL 142 6 yX6_count cX6_count 2 (some .int) 1 := ⟨gw_mem (List.mem_of_getElem? (i := 894) (by decide +kernel)) rfl, gw_mem (List.mem_of_getElem? (i := 895) (by decide +kernel)) rfl, gw_mem (List.mem_of_getElem? (i := 896) (by decide +kernel)) rfl, gw_mem (List.mem_of_getElem? (i := 45) (by decide +kernel)) rfl, cd_X6_count, by decide, by decide, by decide +kernel, _, _, rfl⟩
