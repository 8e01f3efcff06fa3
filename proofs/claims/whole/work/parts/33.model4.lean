/-! ===== NewRaysModel: judge, heard, gone ===== -/
theorem MR.of {F G : FF} {nr ns : Nat} (h : MR F nr ns) (e : G 0 = F 0) : MR G nr ns := by unfold MR; rw [e]; exact h

set_option maxHeartbeats 4000000 in
theorem k_X6_judge (l : Launch) (F : FF) (L : Int64) (nr ns : Nat) (n row : Int32) (hM : MR F nr ns) : CI l yX6_judge cX6_judge 5 (some .int) (rmx 5 124) wM [.ref 0, .int n, .int row] F L (jdMR F nr ns n row) (jdMF F nr ns n row) L := by
  refine mkI [some (.ref 0), some (.int n), some (.int row), none, none] 2 (by decide) rfl (Nat.le_of_ble_eq_true rfl) ?_
  intro x d hx hC
  subst hx
  have hC : Cx x cX6_judge 5 RX6 (some .int) (rmx 5 124) wM d := hC
  refine WP.iln (pc := 0) hC dX6_judge_0 rfl ?_
  refine WP.i2l (pc := 1) hC dX6_judge_1 ?_
  refine WP.lconst (pc := 2) hC dX6_judge_2 1 (by decide) ?_
  refine WP.ldc2 (pc := 3) hC dX6_judge_3 cs_X6_143 ?_
  refine WP.callSI (pc := 6) hC dX6_judge_6 (k_X6_in _ F L wM _ _ _) ml_X6_58 rfl rfl (Nat.le_of_ble_eq_true rfl) ⟨by decide, by decide⟩ ?_
  rw [in14]
  refine WP.ifeq (pc := 9) hC dX6_judge_9 30 (by decide) (fun h9 => ?_) (fun h9 => ?_)
  · refine WP.bipush (pc := 30) hC dX6_judge_30 (-2) (by decide) ?_
    refine WP.iret (pc := 32) hC rfl dX6_judge_32 ?_ ?_ ?_
    all_goals (first | rfl | (unfold jdMR; refine (if_neg ?_).symm; unfold jdOk; rw [Bool.and_eq_true, Bool.and_eq_true, decide_eq_true_eq, decide_eq_true_eq]; rintro ⟨⟨q1, q2⟩, q3⟩; first | (rw [b2_0, Bool.and_eq_false_iff, decide_eq_false_iff_not, decide_eq_false_iff_not] at h9; rcases h9 with z | z; exact z q1; exact z q2) | (rw [b2_0] at h27; rw [ix_nI (by omega), h27] at q3; cases q3)) | (unfold jdMF; refine (if_neg ?_).symm; unfold jdOk; rw [Bool.and_eq_true, Bool.and_eq_true, decide_eq_true_eq, decide_eq_true_eq]; rintro ⟨⟨q1, q2⟩, q3⟩; first | (rw [b2_0, Bool.and_eq_false_iff, decide_eq_false_iff_not, decide_eq_false_iff_not] at h9; rcases h9 with z | z; exact z q1; exact z q2) | (rw [b2_0] at h27; rw [ix_nI (by omega), h27] at q3; cases q3)))
  · rw [b2_n0, Bool.and_eq_true, decide_eq_true_eq, decide_eq_true_eq] at h9
    obtain ⟨m, hm1, hm4, rfl⟩ := ixm (K := 4) h9.1 h9.2 (by decide)
    refine WP.iln (pc := 12) hC dX6_judge_12 rfl ?_
    refine WP.i2l (pc := 13) hC dX6_judge_13 ?_
    refine WP.lconst (pc := 14) hC dX6_judge_14 0 (by decide) ?_
    refine WP.bipush (pc := 15) hC dX6_judge_15 100 (by decide) ?_
    refine WP.iln (pc := 17) hC dX6_judge_17 rfl ?_
    change WP _ _ _ _ _ _ _ (_ :: .int (nI 100) :: _) _ _
    refine WP.callSI (pc := 18) hC dX6_judge_18 (k_X6_power _ F L wM 100 m (by omega)) ml_X6_145 rfl rfl (Nat.le_of_ble_eq_true rfl) ⟨by decide, by decide⟩ ?_
    refine WP.iconst (pc := 21) hC dX6_judge_21 1 (by decide) ?_
    refine WP.isub (pc := 22) hC dX6_judge_22 ?_
    refine WP.i2l (pc := 23) hC dX6_judge_23 ?_
    refine WP.callSI (pc := 24) hC dX6_judge_24 (k_X6_in _ F L wM _ _ _) ml_X6_58 rfl rfl (Nat.le_of_ble_eq_true rfl) ⟨by decide, by decide⟩ ?_
    rw [in0p (hun m (by omega)).2.1 (hun m (by omega)).2.2.1, (hun m (by omega)).1, show (decide (0 ≤ row) && decide (row < nI (10 ^ (2 * m)))) = rowOk row (2 * m) from rfl]
    refine WP.ifne (pc := 27) hC dX6_judge_27 33 (by decide) (fun h27 => ?_) (fun h27 => ?_)
    · rw [b2_n0] at h27
      have hok : jdOk (nI m) row = true := by
        unfold jdOk
        rw [ix_nI (by omega), h27]
        simp [h9.1, h9.2]
      obtain ⟨w, hw, rfl⟩ := nI_of (x := row) (by
        have h27 := h27
        unfold rowOk at h27
        rw [Bool.and_eq_true, decide_eq_true_eq] at h27
        exact i_nlt.mpr h27.1)
      have ew : ix (nI w) = w := nI_clamp hw
      have em : ix (nI m) = m := ix_nI (by omega)
      rw [show jdMR F nr ns (nI m) (nI w) = (jdM nr ns w m 0 (lyM F)).1 by unfold jdMR; rw [if_pos hok, ew, em], show jdMF F nr ns (nI m) (nI w) = (jdM nr ns w m 0 (lyM F)).2 by unfold jdMF; rw [if_pos hok, ew, em]]
      generalize hV : jdM nr ns w m 0 (lyM F) = V
      have loop : ∀ (f k : Nat) (G : FF) (a4 : Option Value), G 0 = F 0 → k + f = m → jdM nr ns w f k G = V → WP x 5 wM d (QI x wM d V.1 V.2 L) 39 [some (.ref 0), some (.int (nI m)), some (.int (nI w)), some (.int (nI k)), a4] [] G L := by
        intro f
        induction f with
        | zero =>
          intro k G a4 hG hk hv
          refine WP.iln (pc := 39) hC dX6_judge_39 rfl ?_
          refine WP.iln (pc := 40) hC dX6_judge_40 rfl ?_
          refine WP.icge (pc := 41) hC dX6_judge_41 86 (by decide) (fun h41 => ?_) (fun h41 => absurd h41 (fun q => q (nI_le (by omega) (by omega))))
          refine WP.bipush (pc := 86) hC dX6_judge_86 (-9) (by decide) ?_
          refine WP.iret (pc := 88) hC rfl dX6_judge_88 ?_ ?_ ?_
          all_goals (first | rfl | (rw [← hv]; rfl))
        | succ f ih =>
          intro k G a4 hG hk hv
          refine WP.iln (pc := 39) hC dX6_judge_39 rfl ?_
          refine WP.iln (pc := 40) hC dX6_judge_40 rfl ?_
          refine WP.icge (pc := 41) hC dX6_judge_41 86 (by decide) (fun h41 => absurd h41 (nI_ge (by omega) (by omega))) (fun h41 => ?_)
          refine WP.iln (pc := 44) hC dX6_judge_44 rfl ?_
          refine WP.bipush (pc := 45) hC dX6_judge_45 100 (by decide) ?_
          refine WP.iln (pc := 47) hC dX6_judge_47 rfl ?_
          refine WP.iconst (pc := 48) hC dX6_judge_48 1 (by decide) ?_
          refine WP.isub (pc := 49) hC dX6_judge_49 ?_
          refine WP.iln (pc := 50) hC dX6_judge_50 rfl ?_
          refine WP.isub (pc := 51) hC dX6_judge_51 ?_
          rw [show nI m - 1 - nI k = nI f from by rw [show nI m - 1 = nI (m - 1) from pk_sub (b := 1) (by omega), pk_sub (by omega), show m - 1 - k = f by omega]]
          change WP _ _ _ _ _ _ _ (_ :: .int (nI 100) :: _) _ _
          refine WP.callSI (pc := 52) hC dX6_judge_52 (k_X6_power _ G L wM 100 f (by omega)) ml_X6_145 rfl rfl (Nat.le_of_ble_eq_true rfl) ⟨by decide, by decide⟩ ?_
          refine WP.idiv (pc := 55) hC dX6_judge_55 (hun f (by omega)).2.2.2 ?_
          refine WP.bipush (pc := 56) hC dX6_judge_56 100 (by decide) ?_
          refine WP.irem (pc := 58) hC dX6_judge_58 (by decide) ?_
          rw [pk_div hw (hun f (by omega)).2.1 (hun f (by omega)).2.2.1, show nI (w / 100 ^ f) - nI (w / 100 ^ f) / 100 * 100 = nI (tw2 w f) from pk_rem (d := 100) (Nat.lt_of_le_of_lt (Nat.div_le_self _ _) hw) (by decide) (by decide)]
          have ht : tw2 w f < 100 := Nat.mod_lt _ (by decide)
          refine WP.is (lv' := [_, _, _, _, _]) (pc := 59) hC dX6_judge_59 rfl (by decide) rfl ?_
          refine WP.aln (pc := 61) hC dX6_judge_61 rfl ?_
          refine WP.il (pc := 62) hC dX6_judge_62 rfl ?_
          refine WP.bipush (pc := 64) hC dX6_judge_64 10 (by decide) ?_
          refine WP.idiv (pc := 66) hC dX6_judge_66 (by decide) ?_
          refine WP.il (pc := 67) hC dX6_judge_67 rfl ?_
          refine WP.bipush (pc := 69) hC dX6_judge_69 10 (by decide) ?_
          refine WP.irem (pc := 71) hC dX6_judge_71 (by decide) ?_
          rw [show nI (tw2 w f) - nI (tw2 w f) / 10 * 10 = nI (tw2 w f % 10) from pk_rem (d := 10) (by omega) (by decide) (by decide), show nI (tw2 w f) / 10 = nI (tw2 w f / 10) from pk_div (d := 10) (by omega) (by decide) (by decide)]
          refine WP.callVI (pc := 72) hC dX6_judge_72 (k_X6_tryThing _ G L nr ns _ _ (hM.of hG) (tw2_lt w f).1 (tw2_lt w f).2) ml_X6_151 rfl rfl (by decide) rfl (Nat.le_of_ble_eq_true rfl) ⟨by decide, by decide⟩ ?_
          refine WP.ifne (pc := 75) hC dX6_judge_75 80 (by decide) (fun h75 => ?_) (fun h75 => ?_)
          · rw [b2_n0] at h75
            refine WP.iinc (lv' := [_, _, _, _, _]) (pc := 80) hC dX6_judge_80 rfl (_ + 1) rfl rfl (by decide) rfl ?_
            refine WP.goto (pc := 83) hC dX6_judge_83 39 (by decide) ?_
            rw [nIp1]
            rw [jdM, if_pos h75] at hv
            exact ih _ _ _ ((tyF_row (by decide)).trans hG) (by omega) hv
          · rw [b2_0] at h75
            refine WP.iln (pc := 78) hC dX6_judge_78 rfl ?_
            refine WP.iret (pc := 79) hC rfl dX6_judge_79 ?_ ?_ ?_
            all_goals (first | rfl | (rw [jdM, if_neg (by rw [h75]; decide)] at hv; rw [← hv]))
      refine WP.aln (pc := 33) hC dX6_judge_33 rfl ?_
      refine WP.callVV (pc := 34) hC dX6_judge_34 (k_X6_layTrial _ F L) ml_X6_148 rfl rfl (by decide) rfl (Nat.le_of_ble_eq_true rfl) ⟨by decide, by decide⟩ ?_
      refine WP.iconst (pc := 37) hC dX6_judge_37 0 (by decide) ?_
      refine WP.isn (lv' := [_, _, _, _, _]) (pc := 38) hC dX6_judge_38 rfl (by decide) rfl ?_
      exact loop m 0 _ _ rfl (by omega) hV
    · refine WP.bipush (pc := 30) hC dX6_judge_30 (-2) (by decide) ?_
      refine WP.iret (pc := 32) hC rfl dX6_judge_32 ?_ ?_ ?_
      all_goals (first | rfl | (unfold jdMR; refine (if_neg ?_).symm; unfold jdOk; rw [Bool.and_eq_true, Bool.and_eq_true, decide_eq_true_eq, decide_eq_true_eq]; rintro ⟨⟨q1, q2⟩, q3⟩; first | (rw [b2_0, Bool.and_eq_false_iff, decide_eq_false_iff_not, decide_eq_false_iff_not] at h9; rcases h9 with z | z; exact z q1; exact z q2) | (rw [b2_0] at h27; rw [ix_nI (by omega), h27] at q3; cases q3)) | (unfold jdMF; refine (if_neg ?_).symm; unfold jdOk; rw [Bool.and_eq_true, Bool.and_eq_true, decide_eq_true_eq, decide_eq_true_eq]; rintro ⟨⟨q1, q2⟩, q3⟩; first | (rw [b2_0, Bool.and_eq_false_iff, decide_eq_false_iff_not, decide_eq_false_iff_not] at h9; rcases h9 with z | z; exact z q1; exact z q2) | (rw [b2_0] at h27; rw [ix_nI (by omega), h27] at q3; cases q3)))
set_option maxHeartbeats 4000000 in
theorem k_X6_hear (l : Launch) (F : FF) (L : Int64) (nr ns h : Nat) (r s p y : Int32) (hM : MR F nr ns) (hH : MH F h) : CI l yX6_hear cX6_hear 5 (some .int) (rmx 2 46) wM [.ref 0, .int r, .int s, .int p, .int y] F L (heMR F nr ns h r s p y) (heMF F nr ns h r s p y) L := by
  refine mkI [some (.ref 0), some (.int r), some (.int s), some (.int p), some (.int y)] 0 (by decide) rfl (Nat.le_of_ble_eq_true rfl) ?_
  intro x d hx hC
  subst hx
  have hC : Cx x cX6_hear 5 RX6 (some .int) (rmx 2 46) wM d := hC
  have e18 := hH.1
  have h6 := hH.2
  refine WP.aln (pc := 0) hC dX6_hear_0 rfl ?_
  refine WP.iln (pc := 1) hC dX6_hear_1 rfl ?_
  refine WP.callVI (pc := 2) hC dX6_hear_2 (k_X6_isReader _ F L nr ns r hM) ml_X6_111 rfl rfl (by decide) rfl (Nat.le_of_ble_eq_true rfl) ⟨by decide, by decide⟩ ?_
  refine WP.ifeq (pc := 5) hC dX6_hear_5 16 (by decide) (fun h5 => ?_) (fun h5 => ?_)
  · have hc9 : ¬ chk r nr s ns = true := by
      unfold chk
      first | (rw [b2_0] at h13; rw [h13, Bool.and_false]; decide) | (rw [b2_0] at h5; rw [h5, Bool.false_and]; decide)
    refine WP.iconst (pc := 16) hC dX6_hear_16 (-1) (by decide) ?_
    refine WP.iret (pc := 17) hC rfl dX6_hear_17 ?_ ?_ ?_
    all_goals (first | rfl | (unfold heMR; rw [if_pos hc9, if_pos hq, if_pos hh]; rfl) | (unfold heMF; rw [if_pos hc9, if_pos hq, if_pos hh]; rfl) | (unfold heMR; rw [if_pos hc9, if_pos hq, if_neg hh]) | (unfold heMF; rw [if_pos hc9, if_pos hq, if_neg hh]) | (unfold heMR; rw [if_pos hc9, if_neg hq]) | (unfold heMF; rw [if_pos hc9, if_neg hq]) | (unfold heMR; rw [if_neg hc9]) | (unfold heMF; rw [if_neg hc9]))
  · refine WP.aln (pc := 8) hC dX6_hear_8 rfl ?_
    refine WP.iln (pc := 9) hC dX6_hear_9 rfl ?_
    refine WP.callVI (pc := 10) hC dX6_hear_10 (k_X6_isSample _ F L nr ns s hM) ml_X6_118 rfl rfl (by decide) rfl (Nat.le_of_ble_eq_true rfl) ⟨by decide, by decide⟩ ?_
    refine WP.ifne (pc := 13) hC dX6_hear_13 18 (by decide) (fun h13 => ?_) (fun h13 => ?_)
    · rw [b2_n0] at h5 h13
      have h9 : (hasB r nr && hasB s ns) = true := by rw [h5, h13]; rfl
      obtain ⟨i, j, hi, hj, rfl, rfl⟩ := chk_of hM.2.2.1 hM.2.2.2 h9
      have hc9 : chk (nI i) nr (nI j) ns = true := h9
      have hi5 : i < 5 := by have := hM.2.2.1; omega
      have hj4 : j < 4 := by have := hM.2.2.2; omega
      have ei : ix (nI i) = i := ix_nI (by omega)
      have ej : ix (nI j) = j := ix_nI (by omega)
      refine WP.iln (pc := 18) hC dX6_hear_18 rfl ?_
      refine WP.i2l (pc := 19) hC dX6_hear_19 ?_
      refine WP.lconst (pc := 20) hC dX6_hear_20 0 (by decide) ?_
      refine WP.lconst (pc := 21) hC dX6_hear_21 1 (by decide) ?_
      refine WP.callSI (pc := 22) hC dX6_hear_22 (k_X6_in _ F L wM _ _ _) ml_X6_58 rfl rfl (Nat.le_of_ble_eq_true rfl) ⟨by decide, by decide⟩ ?_
      rw [in01L]
      refine WP.ifeq (pc := 25) hC dX6_hear_25 39 (by decide) (fun h25 => ?_) (fun h25 => ?_)
      · have hq : ¬ (0 ≤ p ∧ p ≤ 1 ∧ 0 ≤ y ∧ y ≤ 1) := by
          rintro ⟨q1, q2, q3, q4⟩
          first | (rw [b2_0, Bool.and_eq_false_iff, decide_eq_false_iff_not, decide_eq_false_iff_not] at h36; rcases h36 with z | z; exact z q3; exact z q4) | (rw [b2_0, Bool.and_eq_false_iff, decide_eq_false_iff_not, decide_eq_false_iff_not] at h25; rcases h25 with z | z; exact z q1; exact z q2)
        refine WP.bipush (pc := 39) hC dX6_hear_39 (-2) (by decide) ?_
        refine WP.iret (pc := 41) hC rfl dX6_hear_41 ?_ ?_ ?_
        all_goals (first | rfl | (unfold heMR; rw [if_pos hc9, if_pos hq, if_pos hh]; rfl) | (unfold heMF; rw [if_pos hc9, if_pos hq, if_pos hh]; rfl) | (unfold heMR; rw [if_pos hc9, if_pos hq, if_neg hh]) | (unfold heMF; rw [if_pos hc9, if_pos hq, if_neg hh]) | (unfold heMR; rw [if_pos hc9, if_neg hq]) | (unfold heMF; rw [if_pos hc9, if_neg hq]) | (unfold heMR; rw [if_neg hc9]) | (unfold heMF; rw [if_neg hc9]))
      · refine WP.il (pc := 28) hC dX6_hear_28 rfl ?_
        refine WP.i2l (pc := 30) hC dX6_hear_30 ?_
        refine WP.lconst (pc := 31) hC dX6_hear_31 0 (by decide) ?_
        refine WP.lconst (pc := 32) hC dX6_hear_32 1 (by decide) ?_
        refine WP.callSI (pc := 33) hC dX6_hear_33 (k_X6_in _ F L wM _ _ _) ml_X6_58 rfl rfl (Nat.le_of_ble_eq_true rfl) ⟨by decide, by decide⟩ ?_
        rw [in01L]
        refine WP.ifne (pc := 36) hC dX6_hear_36 42 (by decide) (fun h36 => ?_) (fun h36 => ?_)
        · rw [b2_n0, Bool.and_eq_true, decide_eq_true_eq, decide_eq_true_eq] at h25 h36
          have hq : 0 ≤ p ∧ p ≤ 1 ∧ 0 ≤ y ∧ y ≤ 1 := ⟨h25.1, h25.2, h36.1, h36.2⟩
          refine WP.aln (pc := 42) hC dX6_hear_42 rfl ?_
          refine WP.gf (pc := 43) hC dX6_hear_43 fl_X6_154 (by decide) rfl rfl ?_
          refine WP.bipush (pc := 46) hC dX6_hear_46 6 (by decide) ?_
          refine WP.icne (pc := 48) hC dX6_hear_48 54 (by decide) (fun h48 => ?_) (fun h48 => ?_)
          · have hh : h < 6 := by
              rcases Nat.lt_or_ge h 6 with z | z
              · exact z
              · exact absurd (by rw [e18, show h = 6 by omega]; rfl) h48
            refine WP.aln (pc := 54) hC dX6_hear_54 rfl ?_
            refine WP.gf (pc := 55) hC dX6_hear_55 fl_X6_37 (by decide) rfl rfl ?_
            refine WP.aln (pc := 58) hC dX6_hear_58 rfl ?_
            refine WP.gf (pc := 59) hC dX6_hear_59 fl_X6_154 (by decide) rfl rfl ?_
            refine WP.iln (pc := 62) hC dX6_hear_62 rfl ?_
            refine WP.ias (pc := 63) hC dX6_hear_63 h e18 hh (by decide) rfl rfl (by decide) ?_
            refine WP.aln (pc := 64) hC dX6_hear_64 rfl ?_
            refine WP.gf (pc := 65) hC dX6_hear_65 fl_X6_40 (by decide) rfl rfl ?_
            refine WP.aln (pc := 68) hC dX6_hear_68 rfl ?_
            refine WP.gf (pc := 69) hC dX6_hear_69 fl_X6_154 (by decide) rfl rfl ?_
            refine WP.iln (pc := 72) hC dX6_hear_72 rfl ?_
            refine WP.ias (pc := 73) hC dX6_hear_73 h e18 hh (by decide) rfl rfl (by decide) ?_
            refine WP.aln (pc := 74) hC dX6_hear_74 rfl ?_
            refine WP.gf (pc := 75) hC dX6_hear_75 fl_X6_43 (by decide) rfl rfl ?_
            refine WP.aln (pc := 78) hC dX6_hear_78 rfl ?_
            refine WP.gf (pc := 79) hC dX6_hear_79 fl_X6_154 (by decide) rfl rfl ?_
            refine WP.iln (pc := 82) hC dX6_hear_82 rfl ?_
            refine WP.ias (pc := 83) hC dX6_hear_83 h e18 hh (by decide) rfl rfl (by decide) ?_
            refine WP.aln (pc := 84) hC dX6_hear_84 rfl ?_
            refine WP.gf (pc := 85) hC dX6_hear_85 fl_X6_46 (by decide) rfl rfl ?_
            refine WP.aln (pc := 88) hC dX6_hear_88 rfl ?_
            refine WP.gf (pc := 89) hC dX6_hear_89 fl_X6_154 (by decide) rfl rfl ?_
            refine WP.il (pc := 92) hC dX6_hear_92 rfl ?_
            refine WP.ias (pc := 94) hC dX6_hear_94 h e18 hh (by decide) rfl rfl (by decide) ?_
            refine WP.aln (pc := 95) hC dX6_hear_95 rfl ?_
            refine WP.dup (pc := 96) hC dX6_hear_96 rfl ?_
            refine WP.gf (pc := 97) hC dX6_hear_97 fl_X6_154 (by decide) rfl rfl ?_
            refine WP.iconst (pc := 100) hC dX6_hear_100 1 (by decide) ?_
            refine WP.iadd (pc := 101) hC dX6_hear_101 ?_
            refine WP.pf (pc := 102) hC dX6_hear_102 fp_X6_154 rfl rfl (by decide) rfl rfl (Nat.le_of_ble_eq_true rfl) ?_
            refine WP.aln (pc := 105) hC dX6_hear_105 rfl ?_
            refine WP.gf (pc := 106) hC dX6_hear_106 fl_X6_154 (by decide) rfl rfl ?_
            refine WP.iret (pc := 109) hC rfl dX6_hear_109 ?_ ?_ ?_
            all_goals (first | rfl | (unfold heMR; rw [if_pos hc9, if_pos hq, if_pos hh]; rfl) | (unfold heMF; rw [if_pos hc9, if_pos hq, if_pos hh]; rfl) | (unfold heMR; rw [if_pos hc9, if_pos hq, if_neg hh]) | (unfold heMF; rw [if_pos hc9, if_pos hq, if_neg hh]) | (unfold heMR; rw [if_pos hc9, if_neg hq]) | (unfold heMF; rw [if_pos hc9, if_neg hq]) | (unfold heMR; rw [if_neg hc9]) | (unfold heMF; rw [if_neg hc9]))
          · have hh : ¬ h < 6 := by
              rw [e18] at h48
              have := (nI_eq (b := 6) (by omega) (by decide)).mp h48
              omega
            refine WP.bipush (pc := 51) hC dX6_hear_51 (-4) (by decide) ?_
            refine WP.iret (pc := 53) hC rfl dX6_hear_53 ?_ ?_ ?_
            all_goals (first | rfl | (unfold heMR; rw [if_pos hc9, if_pos hq, if_pos hh]; rfl) | (unfold heMF; rw [if_pos hc9, if_pos hq, if_pos hh]; rfl) | (unfold heMR; rw [if_pos hc9, if_pos hq, if_neg hh]) | (unfold heMF; rw [if_pos hc9, if_pos hq, if_neg hh]) | (unfold heMR; rw [if_pos hc9, if_neg hq]) | (unfold heMF; rw [if_pos hc9, if_neg hq]) | (unfold heMR; rw [if_neg hc9]) | (unfold heMF; rw [if_neg hc9]))
        · have hq : ¬ (0 ≤ p ∧ p ≤ 1 ∧ 0 ≤ y ∧ y ≤ 1) := by
            rintro ⟨q1, q2, q3, q4⟩
            first | (rw [b2_0, Bool.and_eq_false_iff, decide_eq_false_iff_not, decide_eq_false_iff_not] at h36; rcases h36 with z | z; exact z q3; exact z q4) | (rw [b2_0, Bool.and_eq_false_iff, decide_eq_false_iff_not, decide_eq_false_iff_not] at h25; rcases h25 with z | z; exact z q1; exact z q2)
          refine WP.bipush (pc := 39) hC dX6_hear_39 (-2) (by decide) ?_
          refine WP.iret (pc := 41) hC rfl dX6_hear_41 ?_ ?_ ?_
          all_goals (first | rfl | (unfold heMR; rw [if_pos hc9, if_pos hq, if_pos hh]; rfl) | (unfold heMF; rw [if_pos hc9, if_pos hq, if_pos hh]; rfl) | (unfold heMR; rw [if_pos hc9, if_pos hq, if_neg hh]) | (unfold heMF; rw [if_pos hc9, if_pos hq, if_neg hh]) | (unfold heMR; rw [if_pos hc9, if_neg hq]) | (unfold heMF; rw [if_pos hc9, if_neg hq]) | (unfold heMR; rw [if_neg hc9]) | (unfold heMF; rw [if_neg hc9]))
    · have hc9 : ¬ chk r nr s ns = true := by
        unfold chk
        first | (rw [b2_0] at h13; rw [h13, Bool.and_false]; decide) | (rw [b2_0] at h5; rw [h5, Bool.false_and]; decide)
      refine WP.iconst (pc := 16) hC dX6_hear_16 (-1) (by decide) ?_
      refine WP.iret (pc := 17) hC rfl dX6_hear_17 ?_ ?_ ?_
      all_goals (first | rfl | (unfold heMR; rw [if_pos hc9, if_pos hq, if_pos hh]; rfl) | (unfold heMF; rw [if_pos hc9, if_pos hq, if_pos hh]; rfl) | (unfold heMR; rw [if_pos hc9, if_pos hq, if_neg hh]) | (unfold heMF; rw [if_pos hc9, if_pos hq, if_neg hh]) | (unfold heMR; rw [if_pos hc9, if_neg hq]) | (unfold heMF; rw [if_pos hc9, if_neg hq]) | (unfold heMR; rw [if_neg hc9]) | (unfold heMF; rw [if_neg hc9]))
set_option maxHeartbeats 4000000 in
theorem k_X6_unhear (l : Launch) (F : FF) (L : Int64)  : CI l yX6_unhear cX6_unhear 2 (some .int) (rmx 0 0) wM [.ref 0] F L (F 0 18) (up2 F 0 18 0) L := by
  refine mkI [some (.ref 0), none] 1 (by decide) rfl (Nat.le_of_ble_eq_true rfl) ?_
  intro x d hx hC
  subst hx
  have hC : Cx x cX6_unhear 2 RX6 (some .int) (rmx 0 0) wM d := hC
  refine WP.aln (pc := 0) hC dX6_unhear_0 rfl ?_
  refine WP.gf (pc := 1) hC dX6_unhear_1 fl_X6_154 (by decide) rfl rfl ?_
  refine WP.isn (lv' := [_, _]) (pc := 4) hC dX6_unhear_4 rfl (by decide) rfl ?_
  refine WP.aln (pc := 5) hC dX6_unhear_5 rfl ?_
  refine WP.iconst (pc := 6) hC dX6_unhear_6 0 (by decide) ?_
  refine WP.pf (pc := 7) hC dX6_unhear_7 fp_X6_154 rfl rfl (by decide) rfl rfl (Nat.le_of_ble_eq_true rfl) ?_
  refine WP.iln (pc := 10) hC dX6_unhear_10 rfl ?_
  refine WP.iret (pc := 11) hC rfl dX6_unhear_11 ?_ ?_ ?_
  all_goals (rfl)
set_option maxHeartbeats 4000000 in
theorem k_X6_mayExpect (l : Launch) (F : FF) (L : Int64) (nr ns h i : Nat) (e : Int32) (hM : MR F nr ns) (hH : MH F h) (hi : i < nr) : CI l yX6_mayExpect cX6_mayExpect 6 (some .boolean) (rmx 2 46) wM [.ref 0, .int (nI i), .int e] F L (b2 (agM F ns i e h)) F L := by
  refine mkI [some (.ref 0), some (.int (nI i)), some (.int e), none, none, none] 3 (by decide) rfl (Nat.le_of_ble_eq_true rfl) ?_
  intro x d hx hC
  subst hx
  have hC : Cx x cX6_mayExpect 6 RX6 (some .boolean) (rmx 2 46) wM d := hC
  have hh6 := hH.2
  have hr5 := hM.2.2.1
  have loop : ∀ j, j ≤ h → ∀ a5 : Option Value, WP x 6 wM d (QI x wM d (b2 (agM F ns i e h)) F L) 5 [some (.ref 0), some (.int (nI i)), some (.int e), some (.int (b2 (agM F ns i e j))), some (.int (nI j)), a5] [] F L := by
    refine loop_c (n := h) (P := fun j => ∀ a5 : Option Value, WP x 6 wM d (QI x wM d (b2 (agM F ns i e h)) F L) 5 [some (.ref 0), some (.int (nI i)), some (.int e), some (.int (b2 (agM F ns i e j))), some (.int (nI j)), a5] [] F L) ?_
    intro j hj0 ih a5
    refine WP.il (pc := 5) hC dX6_mayExpect_5 rfl ?_
    refine WP.aln (pc := 7) hC dX6_mayExpect_7 rfl ?_
    refine WP.gf (pc := 8) hC dX6_mayExpect_8 fl_X6_154 (by decide) rfl rfl ?_
    refine WP.icge (pc := 11) hC dX6_mayExpect_11 118 (by decide) (fun h11 => ?_) (fun h11 => ?_)
    · have h_j : j = h := by
        have h11 := h11
        rw [hH.1] at h11
        have := (nI_leI (by omega) (by omega)).mp h11
        omega
      subst h_j
      refine WP.iln (pc := 118) hC dX6_mayExpect_118 rfl ?_
      refine WP.zret (pc := 119) hC rfl (by first | exact Or.inl rfl | exact Or.inr rfl | exact b2_01 _) dX6_mayExpect_119 ?_ ?_ ?_
      all_goals (rfl)
    · have h_j : j < h := by
        have h11 := h11
        rw [hH.1] at h11
        exact (nI_ltI (by omega) (by omega)).mp (i_nle.mp h11)
      have hv := ih h_j
      refine WP.aln (pc := 14) hC dX6_mayExpect_14 rfl ?_
      refine WP.gf (pc := 15) hC dX6_mayExpect_15 fl_X6_37 (by decide) rfl rfl ?_
      refine WP.il (pc := 18) hC dX6_mayExpect_18 rfl ?_
      refine WP.ial (pc := 20) hC dX6_mayExpect_20 j rfl (by omega) (by decide) rfl (by decide) ?_
      refine WP.iln (pc := 21) hC dX6_mayExpect_21 rfl ?_
      refine WP.icne (pc := 22) hC dX6_mayExpect_22 112 (by decide) (fun h22 => ?_) (fun h22 => ?_)
      · first | (have hz : ∃ q : Int32, b2 (agM F ns i e (j + 1)) = q := ⟨_, ho⟩) | (have ho : b2 (agM F ns i e (j + 1)) = b2 (agM F ns i e j) := (by rw [agM]; first | (simp [okHM, h22]; done) | (rw [b2_0] at h36; simp [okHM, h36]; done)))
        refine WP.iinc (lv' := [_, _, _, _, _, _]) (pc := 112) hC dX6_mayExpect_112 rfl (_ + 1) rfl rfl (by decide) rfl ?_
        refine WP.goto (pc := 115) hC dX6_mayExpect_115 5 (by decide) ?_
        rw [nIp1]
        rw [ho] at hv
        exact hv _
      · refine WP.aln (pc := 25) hC dX6_mayExpect_25 rfl ?_
        refine WP.aln (pc := 26) hC dX6_mayExpect_26 rfl ?_
        refine WP.gf (pc := 27) hC dX6_mayExpect_27 fl_X6_40 (by decide) rfl rfl ?_
        refine WP.il (pc := 30) hC dX6_mayExpect_30 rfl ?_
        refine WP.ial (pc := 32) hC dX6_mayExpect_32 j rfl (by omega) (by decide) rfl (by decide) ?_
        refine WP.callVI (pc := 33) hC dX6_mayExpect_33 (k_X6_isSample _ F L nr ns _ hM) ml_X6_118 rfl rfl (by decide) rfl (Nat.le_of_ble_eq_true rfl) ⟨by decide, by decide⟩ ?_
        refine WP.ifeq (pc := 36) hC dX6_mayExpect_36 112 (by decide) (fun h36 => ?_) (fun h36 => ?_)
        · first | (have hz : ∃ q : Int32, b2 (agM F ns i e (j + 1)) = q := ⟨_, ho⟩) | (have ho : b2 (agM F ns i e (j + 1)) = b2 (agM F ns i e j) := (by rw [agM]; first | (simp [okHM, h22]; done) | (rw [b2_0] at h36; simp [okHM, h36]; done)))
          refine WP.iinc (lv' := [_, _, _, _, _, _]) (pc := 112) hC dX6_mayExpect_112 rfl (_ + 1) rfl rfl (by decide) rfl ?_
          refine WP.goto (pc := 115) hC dX6_mayExpect_115 5 (by decide) ?_
          rw [nIp1]
          rw [ho] at hv
          exact hv _
        · rw [b2_n0] at h36
          obtain ⟨s, hs, es⟩ := hasB_of (by have := hM.2.2.2; omega) h36
          have hs4 : s < 4 := by have := hM.2.2.2; omega
          refine WP.aln (pc := 39) hC dX6_mayExpect_39 rfl ?_
          refine WP.gf (pc := 40) hC dX6_mayExpect_40 fl_X6_43 (by decide) rfl rfl ?_
          refine WP.il (pc := 43) hC dX6_mayExpect_43 rfl ?_
          refine WP.ial (pc := 45) hC dX6_mayExpect_45 j rfl (by omega) (by decide) rfl (by decide) ?_
          refine WP.iconst (pc := 46) hC dX6_mayExpect_46 1 (by decide) ?_
          refine WP.icne (pc := 47) hC dX6_mayExpect_47 65 (by decide) (fun h47 => ?_) (fun h47 => ?_)
          · refine WP.iconst (pc := 65) hC dX6_mayExpect_65 0 (by decide) ?_
            refine WP.is (lv' := [_, _, _, _, _, _]) (pc := 66) hC dX6_mayExpect_66 rfl (by decide) rfl ?_
            refine WP.iln (pc := 68) hC dX6_mayExpect_68 rfl ?_
            refine WP.ifeq (pc := 69) hC dX6_mayExpect_69 110 (by decide) (fun h69 => ?_) (fun h69 => ?_)
            · have ho : b2 (agM F ns i e (j + 1)) = 0 := by
                first | (rw [b2_0] at h69; rw [agM, h69]; rfl) | (rw [b2_n0] at h69; rw [agM, h69]; first | (have h103 : saysB (F 3 i) (F 2 i) (seesM (F 3 i) e (F 4 s) 0 true) = false := (Bool.not_eq_true _).mp (mt b2_1.mpr h103); simp [b2, okHM, h22, es, hasB_in hs (show ns ≤ 5 by have := hM.2.2.2; omega), nI_clamp (show s < 2 ^ 31 by have := hM.2.2.2; omega), lits, tru_t h47, tru_t h95, h103]; done) | (have h103 : saysB (F 3 i) (F 2 i) (seesM (F 3 i) e (F 4 s) 0 true) = true := b2_n0.mp h103; simp [b2, okHM, h22, es, hasB_in hs (show ns ≤ 5 by have := hM.2.2.2; omega), nI_clamp (show s < 2 ^ 31 by have := hM.2.2.2; omega), lits, tru_t h47, tru_f h95, h103]; done) | (have h103 : saysB (F 3 i) (F 2 i) (seesM (F 3 i) e 0 0 true) = false := (Bool.not_eq_true _).mp (mt b2_1.mpr h103); simp [b2, okHM, h22, es, hasB_in hs (show ns ≤ 5 by have := hM.2.2.2; omega), lits, tru_f h47, tru_t h95, h103]; done) | (have h103 : saysB (F 3 i) (F 2 i) (seesM (F 3 i) e 0 0 true) = true := b2_n0.mp h103; simp [b2, okHM, h22, es, hasB_in hs (show ns ≤ 5 by have := hM.2.2.2; omega), lits, tru_f h47, tru_f h95, h103]; done))
              refine WP.iconst (pc := 110) hC dX6_mayExpect_110 0 (by decide) ?_
              refine WP.isn (lv' := [_, _, _, _, _, _]) (pc := 111) hC dX6_mayExpect_111 rfl (by decide) rfl ?_
              first | (have hz : ∃ q : Int32, b2 (agM F ns i e (j + 1)) = q := ⟨_, ho⟩) | (have ho : b2 (agM F ns i e (j + 1)) = b2 (agM F ns i e j) := (by rw [agM]; first | (simp [okHM, h22]; done) | (rw [b2_0] at h36; simp [okHM, h36]; done)))
              refine WP.iinc (lv' := [_, _, _, _, _, _]) (pc := 112) hC dX6_mayExpect_112 rfl (_ + 1) rfl rfl (by decide) rfl ?_
              refine WP.goto (pc := 115) hC dX6_mayExpect_115 5 (by decide) ?_
              rw [nIp1]
              rw [ho] at hv
              exact hv _
            · refine WP.aln (pc := 72) hC dX6_mayExpect_72 rfl ?_
              refine WP.iln (pc := 73) hC dX6_mayExpect_73 rfl ?_
              refine WP.aln (pc := 74) hC dX6_mayExpect_74 rfl ?_
              refine WP.iln (pc := 75) hC dX6_mayExpect_75 rfl ?_
              refine WP.iln (pc := 76) hC dX6_mayExpect_76 rfl ?_
              refine WP.il (pc := 77) hC dX6_mayExpect_77 rfl ?_
              refine WP.iconst (pc := 79) hC dX6_mayExpect_79 1 (by decide) ?_
              refine WP.iconst (pc := 80) hC dX6_mayExpect_80 0 (by decide) ?_
              refine WP.callVI (pc := 81) hC dX6_mayExpect_81 (k_X6_brightFor _ F L i e _ 0 true (by omega)) ml_X6_95 rfl rfl (by decide) rfl (Nat.le_of_ble_eq_true rfl) ⟨by decide, by decide⟩ ?_
              refine WP.callVI (pc := 84) hC dX6_mayExpect_84 (k_X6_saysYes _ F L i _ (by omega)) ml_X6_103 rfl rfl (by decide) rfl (Nat.le_of_ble_eq_true rfl) ⟨by decide, by decide⟩ ?_
              refine WP.aln (pc := 87) hC dX6_mayExpect_87 rfl ?_
              refine WP.gf (pc := 88) hC dX6_mayExpect_88 fl_X6_46 (by decide) rfl rfl ?_
              refine WP.il (pc := 91) hC dX6_mayExpect_91 rfl ?_
              refine WP.ial (pc := 93) hC dX6_mayExpect_93 j rfl (by omega) (by decide) rfl (by decide) ?_
              refine WP.iconst (pc := 94) hC dX6_mayExpect_94 1 (by decide) ?_
              refine WP.icne (pc := 95) hC dX6_mayExpect_95 102 (by decide) (fun h95 => ?_) (fun h95 => ?_)
              · refine WP.iconst (pc := 102) hC dX6_mayExpect_102 0 (by decide) ?_
                refine WP.icne (pc := 103) hC dX6_mayExpect_103 110 (by decide) (fun h103 => ?_) (fun h103 => ?_)
                · have ho : b2 (agM F ns i e (j + 1)) = 0 := by
                    first | (rw [b2_0] at h69; rw [agM, h69]; rfl) | (rw [b2_n0] at h69; rw [agM, h69]; first | (have h103 : saysB (F 3 i) (F 2 i) (seesM (F 3 i) e (F 4 s) 0 true) = false := (Bool.not_eq_true _).mp (mt b2_1.mpr h103); simp [b2, okHM, h22, es, hasB_in hs (show ns ≤ 5 by have := hM.2.2.2; omega), nI_clamp (show s < 2 ^ 31 by have := hM.2.2.2; omega), lits, tru_t h47, tru_t h95, h103]; done) | (have h103 : saysB (F 3 i) (F 2 i) (seesM (F 3 i) e (F 4 s) 0 true) = true := b2_n0.mp h103; simp [b2, okHM, h22, es, hasB_in hs (show ns ≤ 5 by have := hM.2.2.2; omega), nI_clamp (show s < 2 ^ 31 by have := hM.2.2.2; omega), lits, tru_t h47, tru_f h95, h103]; done) | (have h103 : saysB (F 3 i) (F 2 i) (seesM (F 3 i) e 0 0 true) = false := (Bool.not_eq_true _).mp (mt b2_1.mpr h103); simp [b2, okHM, h22, es, hasB_in hs (show ns ≤ 5 by have := hM.2.2.2; omega), lits, tru_f h47, tru_t h95, h103]; done) | (have h103 : saysB (F 3 i) (F 2 i) (seesM (F 3 i) e 0 0 true) = true := b2_n0.mp h103; simp [b2, okHM, h22, es, hasB_in hs (show ns ≤ 5 by have := hM.2.2.2; omega), lits, tru_f h47, tru_f h95, h103]; done))
                  refine WP.iconst (pc := 110) hC dX6_mayExpect_110 0 (by decide) ?_
                  refine WP.isn (lv' := [_, _, _, _, _, _]) (pc := 111) hC dX6_mayExpect_111 rfl (by decide) rfl ?_
                  first | (have hz : ∃ q : Int32, b2 (agM F ns i e (j + 1)) = q := ⟨_, ho⟩) | (have ho : b2 (agM F ns i e (j + 1)) = b2 (agM F ns i e j) := (by rw [agM]; first | (simp [okHM, h22]; done) | (rw [b2_0] at h36; simp [okHM, h36]; done)))
                  refine WP.iinc (lv' := [_, _, _, _, _, _]) (pc := 112) hC dX6_mayExpect_112 rfl (_ + 1) rfl rfl (by decide) rfl ?_
                  refine WP.goto (pc := 115) hC dX6_mayExpect_115 5 (by decide) ?_
                  rw [nIp1]
                  rw [ho] at hv
                  exact hv _
                · have ho : b2 (agM F ns i e (j + 1)) = 1 := by
                    rw [b2_n0] at h69
                    rw [agM, h69]
                    first | (have h103 : saysB (F 3 i) (F 2 i) (seesM (F 3 i) e (F 4 s) 0 true) = true := b2_1.mp h103; simp [b2, okHM, h22, es, hasB_in hs (show ns ≤ 5 by have := hM.2.2.2; omega), nI_clamp (show s < 2 ^ 31 by have := hM.2.2.2; omega), lits, tru_t h47, tru_t h95, h103]; done) | (have h103 : saysB (F 3 i) (F 2 i) (seesM (F 3 i) e (F 4 s) 0 true) = false := b2_0.mp h103; simp [b2, okHM, h22, es, hasB_in hs (show ns ≤ 5 by have := hM.2.2.2; omega), nI_clamp (show s < 2 ^ 31 by have := hM.2.2.2; omega), lits, tru_t h47, tru_f h95, h103]; done) | (have h103 : saysB (F 3 i) (F 2 i) (seesM (F 3 i) e 0 0 true) = true := b2_1.mp h103; simp [b2, okHM, h22, es, hasB_in hs (show ns ≤ 5 by have := hM.2.2.2; omega), lits, tru_f h47, tru_t h95, h103]; done) | (have h103 : saysB (F 3 i) (F 2 i) (seesM (F 3 i) e 0 0 true) = false := b2_0.mp h103; simp [b2, okHM, h22, es, hasB_in hs (show ns ≤ 5 by have := hM.2.2.2; omega), lits, tru_f h47, tru_f h95, h103]; done)
                  refine WP.iconst (pc := 106) hC dX6_mayExpect_106 1 (by decide) ?_
                  refine WP.goto (pc := 107) hC dX6_mayExpect_107 111 (by decide) ?_
                  refine WP.isn (lv' := [_, _, _, _, _, _]) (pc := 111) hC dX6_mayExpect_111 rfl (by decide) rfl ?_
                  first | (have hz : ∃ q : Int32, b2 (agM F ns i e (j + 1)) = q := ⟨_, ho⟩) | (have ho : b2 (agM F ns i e (j + 1)) = b2 (agM F ns i e j) := (by rw [agM]; first | (simp [okHM, h22]; done) | (rw [b2_0] at h36; simp [okHM, h36]; done)))
                  refine WP.iinc (lv' := [_, _, _, _, _, _]) (pc := 112) hC dX6_mayExpect_112 rfl (_ + 1) rfl rfl (by decide) rfl ?_
                  refine WP.goto (pc := 115) hC dX6_mayExpect_115 5 (by decide) ?_
                  rw [nIp1]
                  rw [ho] at hv
                  exact hv _
              · refine WP.iconst (pc := 98) hC dX6_mayExpect_98 1 (by decide) ?_
                refine WP.goto (pc := 99) hC dX6_mayExpect_99 103 (by decide) ?_
                refine WP.icne (pc := 103) hC dX6_mayExpect_103 110 (by decide) (fun h103 => ?_) (fun h103 => ?_)
                · have ho : b2 (agM F ns i e (j + 1)) = 0 := by
                    first | (rw [b2_0] at h69; rw [agM, h69]; rfl) | (rw [b2_n0] at h69; rw [agM, h69]; first | (have h103 : saysB (F 3 i) (F 2 i) (seesM (F 3 i) e (F 4 s) 0 true) = false := (Bool.not_eq_true _).mp (mt b2_1.mpr h103); simp [b2, okHM, h22, es, hasB_in hs (show ns ≤ 5 by have := hM.2.2.2; omega), nI_clamp (show s < 2 ^ 31 by have := hM.2.2.2; omega), lits, tru_t h47, tru_t h95, h103]; done) | (have h103 : saysB (F 3 i) (F 2 i) (seesM (F 3 i) e (F 4 s) 0 true) = true := b2_n0.mp h103; simp [b2, okHM, h22, es, hasB_in hs (show ns ≤ 5 by have := hM.2.2.2; omega), nI_clamp (show s < 2 ^ 31 by have := hM.2.2.2; omega), lits, tru_t h47, tru_f h95, h103]; done) | (have h103 : saysB (F 3 i) (F 2 i) (seesM (F 3 i) e 0 0 true) = false := (Bool.not_eq_true _).mp (mt b2_1.mpr h103); simp [b2, okHM, h22, es, hasB_in hs (show ns ≤ 5 by have := hM.2.2.2; omega), lits, tru_f h47, tru_t h95, h103]; done) | (have h103 : saysB (F 3 i) (F 2 i) (seesM (F 3 i) e 0 0 true) = true := b2_n0.mp h103; simp [b2, okHM, h22, es, hasB_in hs (show ns ≤ 5 by have := hM.2.2.2; omega), lits, tru_f h47, tru_f h95, h103]; done))
                  refine WP.iconst (pc := 110) hC dX6_mayExpect_110 0 (by decide) ?_
                  refine WP.isn (lv' := [_, _, _, _, _, _]) (pc := 111) hC dX6_mayExpect_111 rfl (by decide) rfl ?_
                  first | (have hz : ∃ q : Int32, b2 (agM F ns i e (j + 1)) = q := ⟨_, ho⟩) | (have ho : b2 (agM F ns i e (j + 1)) = b2 (agM F ns i e j) := (by rw [agM]; first | (simp [okHM, h22]; done) | (rw [b2_0] at h36; simp [okHM, h36]; done)))
                  refine WP.iinc (lv' := [_, _, _, _, _, _]) (pc := 112) hC dX6_mayExpect_112 rfl (_ + 1) rfl rfl (by decide) rfl ?_
                  refine WP.goto (pc := 115) hC dX6_mayExpect_115 5 (by decide) ?_
                  rw [nIp1]
                  rw [ho] at hv
                  exact hv _
                · have ho : b2 (agM F ns i e (j + 1)) = 1 := by
                    rw [b2_n0] at h69
                    rw [agM, h69]
                    first | (have h103 : saysB (F 3 i) (F 2 i) (seesM (F 3 i) e (F 4 s) 0 true) = true := b2_1.mp h103; simp [b2, okHM, h22, es, hasB_in hs (show ns ≤ 5 by have := hM.2.2.2; omega), nI_clamp (show s < 2 ^ 31 by have := hM.2.2.2; omega), lits, tru_t h47, tru_t h95, h103]; done) | (have h103 : saysB (F 3 i) (F 2 i) (seesM (F 3 i) e (F 4 s) 0 true) = false := b2_0.mp h103; simp [b2, okHM, h22, es, hasB_in hs (show ns ≤ 5 by have := hM.2.2.2; omega), nI_clamp (show s < 2 ^ 31 by have := hM.2.2.2; omega), lits, tru_t h47, tru_f h95, h103]; done) | (have h103 : saysB (F 3 i) (F 2 i) (seesM (F 3 i) e 0 0 true) = true := b2_1.mp h103; simp [b2, okHM, h22, es, hasB_in hs (show ns ≤ 5 by have := hM.2.2.2; omega), lits, tru_f h47, tru_t h95, h103]; done) | (have h103 : saysB (F 3 i) (F 2 i) (seesM (F 3 i) e 0 0 true) = false := b2_0.mp h103; simp [b2, okHM, h22, es, hasB_in hs (show ns ≤ 5 by have := hM.2.2.2; omega), lits, tru_f h47, tru_f h95, h103]; done)
                  refine WP.iconst (pc := 106) hC dX6_mayExpect_106 1 (by decide) ?_
                  refine WP.goto (pc := 107) hC dX6_mayExpect_107 111 (by decide) ?_
                  refine WP.isn (lv' := [_, _, _, _, _, _]) (pc := 111) hC dX6_mayExpect_111 rfl (by decide) rfl ?_
                  first | (have hz : ∃ q : Int32, b2 (agM F ns i e (j + 1)) = q := ⟨_, ho⟩) | (have ho : b2 (agM F ns i e (j + 1)) = b2 (agM F ns i e j) := (by rw [agM]; first | (simp [okHM, h22]; done) | (rw [b2_0] at h36; simp [okHM, h36]; done)))
                  refine WP.iinc (lv' := [_, _, _, _, _, _]) (pc := 112) hC dX6_mayExpect_112 rfl (_ + 1) rfl rfl (by decide) rfl ?_
                  refine WP.goto (pc := 115) hC dX6_mayExpect_115 5 (by decide) ?_
                  rw [nIp1]
                  rw [ho] at hv
                  exact hv _
          · refine WP.aln (pc := 50) hC dX6_mayExpect_50 rfl ?_
            refine WP.gf (pc := 51) hC dX6_mayExpect_51 fl_X6_19 (by decide) rfl rfl ?_
            refine WP.aln (pc := 54) hC dX6_mayExpect_54 rfl ?_
            refine WP.gf (pc := 55) hC dX6_mayExpect_55 fl_X6_40 (by decide) rfl rfl ?_
            refine WP.il (pc := 58) hC dX6_mayExpect_58 rfl ?_
            refine WP.ial (pc := 60) hC dX6_mayExpect_60 j rfl (by omega) (by decide) rfl (by decide) ?_
            refine WP.ial (pc := 61) hC dX6_mayExpect_61 s es (by omega) (by decide) rfl (by decide) ?_
            refine WP.goto (pc := 62) hC dX6_mayExpect_62 66 (by decide) ?_
            refine WP.is (lv' := [_, _, _, _, _, _]) (pc := 66) hC dX6_mayExpect_66 rfl (by decide) rfl ?_
            refine WP.iln (pc := 68) hC dX6_mayExpect_68 rfl ?_
            refine WP.ifeq (pc := 69) hC dX6_mayExpect_69 110 (by decide) (fun h69 => ?_) (fun h69 => ?_)
            · have ho : b2 (agM F ns i e (j + 1)) = 0 := by
                first | (rw [b2_0] at h69; rw [agM, h69]; rfl) | (rw [b2_n0] at h69; rw [agM, h69]; first | (have h103 : saysB (F 3 i) (F 2 i) (seesM (F 3 i) e (F 4 s) 0 true) = false := (Bool.not_eq_true _).mp (mt b2_1.mpr h103); simp [b2, okHM, h22, es, hasB_in hs (show ns ≤ 5 by have := hM.2.2.2; omega), nI_clamp (show s < 2 ^ 31 by have := hM.2.2.2; omega), lits, tru_t h47, tru_t h95, h103]; done) | (have h103 : saysB (F 3 i) (F 2 i) (seesM (F 3 i) e (F 4 s) 0 true) = true := b2_n0.mp h103; simp [b2, okHM, h22, es, hasB_in hs (show ns ≤ 5 by have := hM.2.2.2; omega), nI_clamp (show s < 2 ^ 31 by have := hM.2.2.2; omega), lits, tru_t h47, tru_f h95, h103]; done) | (have h103 : saysB (F 3 i) (F 2 i) (seesM (F 3 i) e 0 0 true) = false := (Bool.not_eq_true _).mp (mt b2_1.mpr h103); simp [b2, okHM, h22, es, hasB_in hs (show ns ≤ 5 by have := hM.2.2.2; omega), lits, tru_f h47, tru_t h95, h103]; done) | (have h103 : saysB (F 3 i) (F 2 i) (seesM (F 3 i) e 0 0 true) = true := b2_n0.mp h103; simp [b2, okHM, h22, es, hasB_in hs (show ns ≤ 5 by have := hM.2.2.2; omega), lits, tru_f h47, tru_f h95, h103]; done))
              refine WP.iconst (pc := 110) hC dX6_mayExpect_110 0 (by decide) ?_
              refine WP.isn (lv' := [_, _, _, _, _, _]) (pc := 111) hC dX6_mayExpect_111 rfl (by decide) rfl ?_
              first | (have hz : ∃ q : Int32, b2 (agM F ns i e (j + 1)) = q := ⟨_, ho⟩) | (have ho : b2 (agM F ns i e (j + 1)) = b2 (agM F ns i e j) := (by rw [agM]; first | (simp [okHM, h22]; done) | (rw [b2_0] at h36; simp [okHM, h36]; done)))
              refine WP.iinc (lv' := [_, _, _, _, _, _]) (pc := 112) hC dX6_mayExpect_112 rfl (_ + 1) rfl rfl (by decide) rfl ?_
              refine WP.goto (pc := 115) hC dX6_mayExpect_115 5 (by decide) ?_
              rw [nIp1]
              rw [ho] at hv
              exact hv _
            · refine WP.aln (pc := 72) hC dX6_mayExpect_72 rfl ?_
              refine WP.iln (pc := 73) hC dX6_mayExpect_73 rfl ?_
              refine WP.aln (pc := 74) hC dX6_mayExpect_74 rfl ?_
              refine WP.iln (pc := 75) hC dX6_mayExpect_75 rfl ?_
              refine WP.iln (pc := 76) hC dX6_mayExpect_76 rfl ?_
              refine WP.il (pc := 77) hC dX6_mayExpect_77 rfl ?_
              refine WP.iconst (pc := 79) hC dX6_mayExpect_79 1 (by decide) ?_
              refine WP.iconst (pc := 80) hC dX6_mayExpect_80 0 (by decide) ?_
              refine WP.callVI (pc := 81) hC dX6_mayExpect_81 (k_X6_brightFor _ F L i e _ 0 true (by omega)) ml_X6_95 rfl rfl (by decide) rfl (Nat.le_of_ble_eq_true rfl) ⟨by decide, by decide⟩ ?_
              refine WP.callVI (pc := 84) hC dX6_mayExpect_84 (k_X6_saysYes _ F L i _ (by omega)) ml_X6_103 rfl rfl (by decide) rfl (Nat.le_of_ble_eq_true rfl) ⟨by decide, by decide⟩ ?_
              refine WP.aln (pc := 87) hC dX6_mayExpect_87 rfl ?_
              refine WP.gf (pc := 88) hC dX6_mayExpect_88 fl_X6_46 (by decide) rfl rfl ?_
              refine WP.il (pc := 91) hC dX6_mayExpect_91 rfl ?_
              refine WP.ial (pc := 93) hC dX6_mayExpect_93 j rfl (by omega) (by decide) rfl (by decide) ?_
              refine WP.iconst (pc := 94) hC dX6_mayExpect_94 1 (by decide) ?_
              refine WP.icne (pc := 95) hC dX6_mayExpect_95 102 (by decide) (fun h95 => ?_) (fun h95 => ?_)
              · refine WP.iconst (pc := 102) hC dX6_mayExpect_102 0 (by decide) ?_
                refine WP.icne (pc := 103) hC dX6_mayExpect_103 110 (by decide) (fun h103 => ?_) (fun h103 => ?_)
                · have ho : b2 (agM F ns i e (j + 1)) = 0 := by
                    first | (rw [b2_0] at h69; rw [agM, h69]; rfl) | (rw [b2_n0] at h69; rw [agM, h69]; first | (have h103 : saysB (F 3 i) (F 2 i) (seesM (F 3 i) e (F 4 s) 0 true) = false := (Bool.not_eq_true _).mp (mt b2_1.mpr h103); simp [b2, okHM, h22, es, hasB_in hs (show ns ≤ 5 by have := hM.2.2.2; omega), nI_clamp (show s < 2 ^ 31 by have := hM.2.2.2; omega), lits, tru_t h47, tru_t h95, h103]; done) | (have h103 : saysB (F 3 i) (F 2 i) (seesM (F 3 i) e (F 4 s) 0 true) = true := b2_n0.mp h103; simp [b2, okHM, h22, es, hasB_in hs (show ns ≤ 5 by have := hM.2.2.2; omega), nI_clamp (show s < 2 ^ 31 by have := hM.2.2.2; omega), lits, tru_t h47, tru_f h95, h103]; done) | (have h103 : saysB (F 3 i) (F 2 i) (seesM (F 3 i) e 0 0 true) = false := (Bool.not_eq_true _).mp (mt b2_1.mpr h103); simp [b2, okHM, h22, es, hasB_in hs (show ns ≤ 5 by have := hM.2.2.2; omega), lits, tru_f h47, tru_t h95, h103]; done) | (have h103 : saysB (F 3 i) (F 2 i) (seesM (F 3 i) e 0 0 true) = true := b2_n0.mp h103; simp [b2, okHM, h22, es, hasB_in hs (show ns ≤ 5 by have := hM.2.2.2; omega), lits, tru_f h47, tru_f h95, h103]; done))
                  refine WP.iconst (pc := 110) hC dX6_mayExpect_110 0 (by decide) ?_
                  refine WP.isn (lv' := [_, _, _, _, _, _]) (pc := 111) hC dX6_mayExpect_111 rfl (by decide) rfl ?_
                  first | (have hz : ∃ q : Int32, b2 (agM F ns i e (j + 1)) = q := ⟨_, ho⟩) | (have ho : b2 (agM F ns i e (j + 1)) = b2 (agM F ns i e j) := (by rw [agM]; first | (simp [okHM, h22]; done) | (rw [b2_0] at h36; simp [okHM, h36]; done)))
                  refine WP.iinc (lv' := [_, _, _, _, _, _]) (pc := 112) hC dX6_mayExpect_112 rfl (_ + 1) rfl rfl (by decide) rfl ?_
                  refine WP.goto (pc := 115) hC dX6_mayExpect_115 5 (by decide) ?_
                  rw [nIp1]
                  rw [ho] at hv
                  exact hv _
                · have ho : b2 (agM F ns i e (j + 1)) = 1 := by
                    rw [b2_n0] at h69
                    rw [agM, h69]
                    first | (have h103 : saysB (F 3 i) (F 2 i) (seesM (F 3 i) e (F 4 s) 0 true) = true := b2_1.mp h103; simp [b2, okHM, h22, es, hasB_in hs (show ns ≤ 5 by have := hM.2.2.2; omega), nI_clamp (show s < 2 ^ 31 by have := hM.2.2.2; omega), lits, tru_t h47, tru_t h95, h103]; done) | (have h103 : saysB (F 3 i) (F 2 i) (seesM (F 3 i) e (F 4 s) 0 true) = false := b2_0.mp h103; simp [b2, okHM, h22, es, hasB_in hs (show ns ≤ 5 by have := hM.2.2.2; omega), nI_clamp (show s < 2 ^ 31 by have := hM.2.2.2; omega), lits, tru_t h47, tru_f h95, h103]; done) | (have h103 : saysB (F 3 i) (F 2 i) (seesM (F 3 i) e 0 0 true) = true := b2_1.mp h103; simp [b2, okHM, h22, es, hasB_in hs (show ns ≤ 5 by have := hM.2.2.2; omega), lits, tru_f h47, tru_t h95, h103]; done) | (have h103 : saysB (F 3 i) (F 2 i) (seesM (F 3 i) e 0 0 true) = false := b2_0.mp h103; simp [b2, okHM, h22, es, hasB_in hs (show ns ≤ 5 by have := hM.2.2.2; omega), lits, tru_f h47, tru_f h95, h103]; done)
                  refine WP.iconst (pc := 106) hC dX6_mayExpect_106 1 (by decide) ?_
                  refine WP.goto (pc := 107) hC dX6_mayExpect_107 111 (by decide) ?_
                  refine WP.isn (lv' := [_, _, _, _, _, _]) (pc := 111) hC dX6_mayExpect_111 rfl (by decide) rfl ?_
                  first | (have hz : ∃ q : Int32, b2 (agM F ns i e (j + 1)) = q := ⟨_, ho⟩) | (have ho : b2 (agM F ns i e (j + 1)) = b2 (agM F ns i e j) := (by rw [agM]; first | (simp [okHM, h22]; done) | (rw [b2_0] at h36; simp [okHM, h36]; done)))
                  refine WP.iinc (lv' := [_, _, _, _, _, _]) (pc := 112) hC dX6_mayExpect_112 rfl (_ + 1) rfl rfl (by decide) rfl ?_
                  refine WP.goto (pc := 115) hC dX6_mayExpect_115 5 (by decide) ?_
                  rw [nIp1]
                  rw [ho] at hv
                  exact hv _
              · refine WP.iconst (pc := 98) hC dX6_mayExpect_98 1 (by decide) ?_
                refine WP.goto (pc := 99) hC dX6_mayExpect_99 103 (by decide) ?_
                refine WP.icne (pc := 103) hC dX6_mayExpect_103 110 (by decide) (fun h103 => ?_) (fun h103 => ?_)
                · have ho : b2 (agM F ns i e (j + 1)) = 0 := by
                    first | (rw [b2_0] at h69; rw [agM, h69]; rfl) | (rw [b2_n0] at h69; rw [agM, h69]; first | (have h103 : saysB (F 3 i) (F 2 i) (seesM (F 3 i) e (F 4 s) 0 true) = false := (Bool.not_eq_true _).mp (mt b2_1.mpr h103); simp [b2, okHM, h22, es, hasB_in hs (show ns ≤ 5 by have := hM.2.2.2; omega), nI_clamp (show s < 2 ^ 31 by have := hM.2.2.2; omega), lits, tru_t h47, tru_t h95, h103]; done) | (have h103 : saysB (F 3 i) (F 2 i) (seesM (F 3 i) e (F 4 s) 0 true) = true := b2_n0.mp h103; simp [b2, okHM, h22, es, hasB_in hs (show ns ≤ 5 by have := hM.2.2.2; omega), nI_clamp (show s < 2 ^ 31 by have := hM.2.2.2; omega), lits, tru_t h47, tru_f h95, h103]; done) | (have h103 : saysB (F 3 i) (F 2 i) (seesM (F 3 i) e 0 0 true) = false := (Bool.not_eq_true _).mp (mt b2_1.mpr h103); simp [b2, okHM, h22, es, hasB_in hs (show ns ≤ 5 by have := hM.2.2.2; omega), lits, tru_f h47, tru_t h95, h103]; done) | (have h103 : saysB (F 3 i) (F 2 i) (seesM (F 3 i) e 0 0 true) = true := b2_n0.mp h103; simp [b2, okHM, h22, es, hasB_in hs (show ns ≤ 5 by have := hM.2.2.2; omega), lits, tru_f h47, tru_f h95, h103]; done))
                  refine WP.iconst (pc := 110) hC dX6_mayExpect_110 0 (by decide) ?_
                  refine WP.isn (lv' := [_, _, _, _, _, _]) (pc := 111) hC dX6_mayExpect_111 rfl (by decide) rfl ?_
                  first | (have hz : ∃ q : Int32, b2 (agM F ns i e (j + 1)) = q := ⟨_, ho⟩) | (have ho : b2 (agM F ns i e (j + 1)) = b2 (agM F ns i e j) := (by rw [agM]; first | (simp [okHM, h22]; done) | (rw [b2_0] at h36; simp [okHM, h36]; done)))
                  refine WP.iinc (lv' := [_, _, _, _, _, _]) (pc := 112) hC dX6_mayExpect_112 rfl (_ + 1) rfl rfl (by decide) rfl ?_
                  refine WP.goto (pc := 115) hC dX6_mayExpect_115 5 (by decide) ?_
                  rw [nIp1]
                  rw [ho] at hv
                  exact hv _
                · have ho : b2 (agM F ns i e (j + 1)) = 1 := by
                    rw [b2_n0] at h69
                    rw [agM, h69]
                    first | (have h103 : saysB (F 3 i) (F 2 i) (seesM (F 3 i) e (F 4 s) 0 true) = true := b2_1.mp h103; simp [b2, okHM, h22, es, hasB_in hs (show ns ≤ 5 by have := hM.2.2.2; omega), nI_clamp (show s < 2 ^ 31 by have := hM.2.2.2; omega), lits, tru_t h47, tru_t h95, h103]; done) | (have h103 : saysB (F 3 i) (F 2 i) (seesM (F 3 i) e (F 4 s) 0 true) = false := b2_0.mp h103; simp [b2, okHM, h22, es, hasB_in hs (show ns ≤ 5 by have := hM.2.2.2; omega), nI_clamp (show s < 2 ^ 31 by have := hM.2.2.2; omega), lits, tru_t h47, tru_f h95, h103]; done) | (have h103 : saysB (F 3 i) (F 2 i) (seesM (F 3 i) e 0 0 true) = true := b2_1.mp h103; simp [b2, okHM, h22, es, hasB_in hs (show ns ≤ 5 by have := hM.2.2.2; omega), lits, tru_f h47, tru_t h95, h103]; done) | (have h103 : saysB (F 3 i) (F 2 i) (seesM (F 3 i) e 0 0 true) = false := b2_0.mp h103; simp [b2, okHM, h22, es, hasB_in hs (show ns ≤ 5 by have := hM.2.2.2; omega), lits, tru_f h47, tru_f h95, h103]; done)
                  refine WP.iconst (pc := 106) hC dX6_mayExpect_106 1 (by decide) ?_
                  refine WP.goto (pc := 107) hC dX6_mayExpect_107 111 (by decide) ?_
                  refine WP.isn (lv' := [_, _, _, _, _, _]) (pc := 111) hC dX6_mayExpect_111 rfl (by decide) rfl ?_
                  first | (have hz : ∃ q : Int32, b2 (agM F ns i e (j + 1)) = q := ⟨_, ho⟩) | (have ho : b2 (agM F ns i e (j + 1)) = b2 (agM F ns i e j) := (by rw [agM]; first | (simp [okHM, h22]; done) | (rw [b2_0] at h36; simp [okHM, h36]; done)))
                  refine WP.iinc (lv' := [_, _, _, _, _, _]) (pc := 112) hC dX6_mayExpect_112 rfl (_ + 1) rfl rfl (by decide) rfl ?_
                  refine WP.goto (pc := 115) hC dX6_mayExpect_115 5 (by decide) ?_
                  rw [nIp1]
                  rw [ho] at hv
                  exact hv _
  refine WP.iconst (pc := 0) hC dX6_mayExpect_0 1 (by decide) ?_
  refine WP.isn (lv' := [_, _, _, _, _, _]) (pc := 1) hC dX6_mayExpect_1 rfl (by decide) rfl ?_
  refine WP.iconst (pc := 2) hC dX6_mayExpect_2 0 (by decide) ?_
  refine WP.is (lv' := [_, _, _, _, _, _]) (pc := 3) hC dX6_mayExpect_3 rfl (by decide) rfl ?_
  exact loop 0 (Nat.zero_le _) _
set_option maxHeartbeats 4000000 in
theorem k_X6_expect (l : Launch) (F : FF) (L : Int64) (nr ns h : Nat) (r : Int32) (hM : MR F nr ns) (hH : MH F h) : CI l yX6_expect cX6_expect 4 (some .int) (rmx 3 71) wM [.ref 0, .int r] F L (exMR F nr ns h r) F L := by
  refine mkI [some (.ref 0), some (.int r), none, none] 2 (by decide) rfl (Nat.le_of_ble_eq_true rfl) ?_
  intro x d hx hC
  subst hx
  have hC : Cx x cX6_expect 4 RX6 (some .int) (rmx 3 71) wM d := hC
  refine WP.aln (pc := 0) hC dX6_expect_0 rfl ?_
  refine WP.iln (pc := 1) hC dX6_expect_1 rfl ?_
  refine WP.callVI (pc := 2) hC dX6_expect_2 (k_X6_isReader _ F L nr ns r hM) ml_X6_111 rfl rfl (by decide) rfl (Nat.le_of_ble_eq_true rfl) ⟨by decide, by decide⟩ ?_
  refine WP.ifne (pc := 5) hC dX6_expect_5 10 (by decide) (fun h5 => ?_) (fun h5 => ?_)
  · rw [b2_n0] at h5
    obtain ⟨i, hi, rfl⟩ := hasB_of hM.2.2.1 h5
    have hi5 : i < 5 := by have := hM.2.2.1; omega
    have ei : ix (nI i) = i := ix_nI (by omega)
    rw [show exMR F nr ns h (nI i) = nI (bits (fun e => agM F ns i (nI e) h) 10) by unfold exMR; rw [if_pos h5, ei]]
    have loop : ∀ e, e ≤ 10 → WP x 4 wM d (QI x wM d (nI (bits (fun e => agM F ns i (nI e) h) 10)) F L) 14 [some (.ref 0), some (.int (nI i)), some (.int (nI (bits (fun e => agM F ns i (nI e) h) e))), some (.int (nI e))] [] F L := by
      refine loop_c (n := 10) (P := fun e => WP x 4 wM d (QI x wM d (nI (bits (fun e => agM F ns i (nI e) h) 10)) F L) 14 [some (.ref 0), some (.int (nI i)), some (.int (nI (bits (fun e => agM F ns i (nI e) h) e))), some (.int (nI e))] [] F L) ?_
      intro e he0 ih
      refine WP.iln (pc := 14) hC dX6_expect_14 rfl ?_
      refine WP.bipush (pc := 15) hC dX6_expect_15 10 (by decide) ?_
      refine WP.icge (pc := 17) hC dX6_expect_17 45 (by decide) (fun h17 => ?_) (fun h17 => ?_)
      · have he9 : e = 10 := by
          have := (nI_leI (a := 10) (by decide) (by omega)).mp h17
          omega
        subst he9
        refine WP.iln (pc := 45) hC dX6_expect_45 rfl ?_
        refine WP.iret (pc := 46) hC rfl dX6_expect_46 ?_ ?_ ?_
        all_goals (rfl)
      · have he : e < 10 := (nI_ltI (b := 10) (by omega) (by decide)).mp (i_nle.mp h17)
        have hv := ih he
        refine WP.iln (pc := 20) hC dX6_expect_20 rfl ?_
        refine WP.aln (pc := 21) hC dX6_expect_21 rfl ?_
        refine WP.iln (pc := 22) hC dX6_expect_22 rfl ?_
        refine WP.iln (pc := 23) hC dX6_expect_23 rfl ?_
        refine WP.callVI (pc := 24) hC dX6_expect_24 (k_X6_mayExpect _ F L nr ns h i (nI e) hM hH hi) ml_X6_157 rfl rfl (by decide) rfl (Nat.le_of_ble_eq_true rfl) ⟨by decide, by decide⟩ ?_
        refine WP.ifeq (pc := 27) hC dX6_expect_27 36 (by decide) (fun h27 => ?_) (fun h27 => ?_)
        · rw [b2_0] at h27
          refine WP.iconst (pc := 36) hC dX6_expect_36 0 (by decide) ?_
          refine WP.ior (pc := 37) hC dX6_expect_37 ?_
          first | rw [shX e he, or_bitX e he _ (bits_lt _ _)] | rw [or0]
          refine WP.isn (lv' := [_, _, _, _]) (pc := 38) hC dX6_expect_38 rfl (by decide) rfl ?_
          refine WP.iinc (lv' := [_, _, _, _]) (pc := 39) hC dX6_expect_39 rfl (_ + 1) rfl rfl (by decide) rfl ?_
          refine WP.goto (pc := 42) hC dX6_expect_42 14 (by decide) ?_
          rw [nIp1]
          first | (rw [bits_t (f := (fun e => agM F ns i (nI e) h)) h27] at hv; exact hv) | (rw [bits_f (f := (fun e => agM F ns i (nI e) h)) h27] at hv; exact hv)
        · rw [b2_n0] at h27
          refine WP.iconst (pc := 30) hC dX6_expect_30 1 (by decide) ?_
          refine WP.iln (pc := 31) hC dX6_expect_31 rfl ?_
          refine WP.ishl (pc := 32) hC dX6_expect_32 ?_
          refine WP.goto (pc := 33) hC dX6_expect_33 37 (by decide) ?_
          refine WP.ior (pc := 37) hC dX6_expect_37 ?_
          first | rw [shX e he, or_bitX e he _ (bits_lt _ _)] | rw [or0]
          refine WP.isn (lv' := [_, _, _, _]) (pc := 38) hC dX6_expect_38 rfl (by decide) rfl ?_
          refine WP.iinc (lv' := [_, _, _, _]) (pc := 39) hC dX6_expect_39 rfl (_ + 1) rfl rfl (by decide) rfl ?_
          refine WP.goto (pc := 42) hC dX6_expect_42 14 (by decide) ?_
          rw [nIp1]
          first | (rw [bits_t (f := (fun e => agM F ns i (nI e) h)) h27] at hv; exact hv) | (rw [bits_f (f := (fun e => agM F ns i (nI e) h)) h27] at hv; exact hv)
    refine WP.iconst (pc := 10) hC dX6_expect_10 0 (by decide) ?_
    refine WP.isn (lv' := [_, _, _, _]) (pc := 11) hC dX6_expect_11 rfl (by decide) rfl ?_
    refine WP.iconst (pc := 12) hC dX6_expect_12 0 (by decide) ?_
    refine WP.isn (lv' := [_, _, _, _]) (pc := 13) hC dX6_expect_13 rfl (by decide) rfl ?_
    exact loop 0 (by decide)
  · rw [b2_0] at h5
    refine WP.iconst (pc := 8) hC dX6_expect_8 (-1) (by decide) ?_
    refine WP.iret (pc := 9) hC rfl dX6_expect_9 ?_ ?_ ?_
    all_goals (first | rfl | (unfold exMR; rw [if_neg (by rw [h5]; decide)]))
