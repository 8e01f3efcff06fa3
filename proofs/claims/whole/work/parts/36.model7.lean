/-! ===== NewRaysModel: flicker ===== -/
set_option maxHeartbeats 4000000 in
theorem k_X6_flicker (l : Launch) (F : FF) (L : Int64) (nr ns : Nat) (s m x : Int32) (up : Bool) (hM : MR F nr ns) : CI l yX6_flicker cX6_flicker 11 (some .int) (rmx 2 52) wM [.ref 0, .int s, .int m, .int x, .int (b2 up)] F L (flMR F nr ns s m x up) F L := by
  refine mkI [some (.ref 0), some (.int s), some (.int m), some (.int x), some (.int (b2 up)), none, none, none, none, none, none] 6 (by decide) rfl (Nat.le_of_ble_eq_true rfl) ?_
  intro x0 d hx hC
  subst hx
  have hC : Cx x0 cX6_flicker 11 RX6 (some .int) (rmx 2 52) wM d := hC
  refine WP.aln (pc := 0) hC dX6_flicker_0 rfl ?_
  refine WP.iln (pc := 1) hC dX6_flicker_1 rfl ?_
  refine WP.callVI (pc := 2) hC dX6_flicker_2 (k_X6_isSample _ F L nr ns s hM) ml_X6_118 rfl rfl (by decide) rfl (Nat.le_of_ble_eq_true rfl) ⟨by decide, by decide⟩ ?_
  refine WP.ifne (pc := 5) hC dX6_flicker_5 10 (by decide) (fun h5 => ?_) (fun h5 => ?_)
  · rw [b2_n0] at h5
    obtain ⟨j, hj, rfl⟩ := hasB_of (by have := hM.2.2.2; omega) h5
    have hj4 : j < 4 := by have := hM.2.2.2; omega
    have ej : ix (nI j) = j := ix_nI (by omega)
    refine WP.iln (pc := 10) hC dX6_flicker_10 rfl ?_
    refine WP.i2l (pc := 11) hC dX6_flicker_11 ?_
    refine WP.lconst (pc := 12) hC dX6_flicker_12 0 (by decide) ?_
    refine WP.ldc2 (pc := 13) hC dX6_flicker_13 cs_X6_189 ?_
    refine WP.callSI (pc := 16) hC dX6_flicker_16 (k_X6_in _ F L wM _ _ _) ml_X6_58 rfl rfl (Nat.le_of_ble_eq_true rfl) ⟨by decide, by decide⟩ ?_
    rw [in05]
    refine WP.ifeq (pc := 19) hC dX6_flicker_19 34 (by decide) (fun h19 => ?_) (fun h19 => ?_)
    · refine WP.bipush (pc := 34) hC dX6_flicker_34 (-2) (by decide) ?_
      refine WP.iret (pc := 36) hC rfl dX6_flicker_36 ?_ ?_ ?_
      all_goals (first | rfl | (unfold flMR; rw [if_pos h5]; refine (if_neg ?_).symm; unfold flOk; rw [Bool.and_eq_true, Bool.and_eq_true, Bool.and_eq_true, decide_eq_true_eq, decide_eq_true_eq, decide_eq_true_eq, decide_eq_true_eq]; rintro ⟨⟨q1, q2⟩, q3, q4⟩; first | (rw [b2_0, Bool.and_eq_false_iff, decide_eq_false_iff_not, decide_eq_false_iff_not] at h31; rcases h31 with z | z; exact z q3; exact z q4) | (rw [b2_0, Bool.and_eq_false_iff, decide_eq_false_iff_not, decide_eq_false_iff_not] at h19; rcases h19 with z | z; exact z q1; exact z q2)))
    · refine WP.iln (pc := 22) hC dX6_flicker_22 rfl ?_
      refine WP.i2l (pc := 23) hC dX6_flicker_23 ?_
      refine WP.lconst (pc := 24) hC dX6_flicker_24 0 (by decide) ?_
      refine WP.ldc2 (pc := 25) hC dX6_flicker_25 cs_X6_191 ?_
      refine WP.callSI (pc := 28) hC dX6_flicker_28 (k_X6_in _ F L wM _ _ _) ml_X6_58 rfl rfl (Nat.le_of_ble_eq_true rfl) ⟨by decide, by decide⟩ ?_
      rw [in010]
      refine WP.ifne (pc := 31) hC dX6_flicker_31 37 (by decide) (fun h31 => ?_) (fun h31 => ?_)
      · rw [b2_n0, Bool.and_eq_true, decide_eq_true_eq, decide_eq_true_eq] at h19 h31
        obtain ⟨m, hm5, rfl⟩ := ix0 (K := 5) h19.1 h19.2 (by decide)
        obtain ⟨x, hx10, rfl⟩ := ix0 (K := 10) h31.1 h31.2 (by decide)
        have hr5 := hM.2.2.1
        have hp10 := pow10 nr hr5
        have h32 := pow5 nr hr5
        have em : ix (nI m) = m := ix_nI (by omega)
        have ex : ix (nI x) = x := ix_nI (by omega)
        have hok : flOk (nI m) (nI x) = true := by unfold flOk; simp [h19.1, h19.2, h31.1, h31.2]
        have hS := suS_le F j x m nr (2 ^ nr)
        rw [suA_eq x hx10 nr hr5] at hS
        have hg0 : 0 < Nat.gcd (suS F j x m nr (2 ^ nr)) (10 ^ nr) := Nat.gcd_pos_of_pos_right _ hp10.1
        have hg1 : Nat.gcd (suS F j x m nr (2 ^ nr)) (10 ^ nr) ≤ 10 ^ nr := Nat.gcd_le_right _ hp10.1
        rw [show flMR F nr ns (nI j) (nI m) (nI x) up = frR (nI (suS F j x m nr (2 ^ nr))) (suS F j x m nr (2 ^ nr)) (10 ^ nr) up by unfold flMR flMS; rw [if_pos h5, if_pos hok, ej, em, ex]]
        have loop : ∀ q, q ≤ 2 ^ nr → ∀ a8 a9 a10 : Option Value, WP x0 11 wM d (QI x0 wM d (frR (nI (suS F j x m nr (2 ^ nr))) (suS F j x m nr (2 ^ nr)) (10 ^ nr) up) F L) 46 [some (.ref 0), some (.int (nI j)), some (.int (nI m)), some (.int (nI x)), some (.int (b2 up)), some (.int (nI (suS F j x m nr q))), some (.int (nI (suA x nr q))), some (.int (nI q)), a8, a9, a10] [] F L := by
          refine loop_c (n := 2 ^ nr) (P := fun q => ∀ a8 a9 a10 : Option Value, WP x0 11 wM d (QI x0 wM d (frR (nI (suS F j x m nr (2 ^ nr))) (suS F j x m nr (2 ^ nr)) (10 ^ nr) up) F L) 46 [some (.ref 0), some (.int (nI j)), some (.int (nI m)), some (.int (nI x)), some (.int (b2 up)), some (.int (nI (suS F j x m nr q))), some (.int (nI (suA x nr q))), some (.int (nI q)), a8, a9, a10] [] F L) ?_
          intro q hq0 ih a8 a9 a10
          refine WP.il (pc := 46) hC dX6_flicker_46 rfl ?_
          refine WP.iconst (pc := 48) hC dX6_flicker_48 1 (by decide) ?_
          refine WP.aln (pc := 49) hC dX6_flicker_49 rfl ?_
          refine WP.gf (pc := 50) hC dX6_flicker_50 fl_X6_86 (by decide) rfl rfl ?_
          refine WP.ishl (pc := 53) hC dX6_flicker_53 ?_
          rw [hM.1, sh5 nr (by omega)]
          refine WP.icge (pc := 54) hC dX6_flicker_54 172 (by decide) (fun h54 => ?_) (fun h54 => ?_)
          · have hq9 : q = 2 ^ nr := by
              have := (nI_leI (by omega) (by omega)).mp h54
              omega
            subst hq9
            rw [suA_eq x hx10 nr hr5]
            refine WP.il (pc := 172) hC dX6_flicker_172 rfl ?_
            refine WP.il (pc := 174) hC dX6_flicker_174 rfl ?_
            refine WP.callSI (pc := 176) hC dX6_flicker_176 (k_X6_common _ F L wM _ (suS F j x m nr (2 ^ nr)) (10 ^ nr) (by unfold abZ; rw [if_pos (nI_pos' (by omega))]) (by omega) (by omega)) ml_X6_175 rfl rfl (Nat.le_of_ble_eq_true rfl) ⟨by decide, by decide⟩ ?_
            refine WP.is (lv' := [_, _, _, _, _, _, _, _, _, _, _]) (pc := 179) hC dX6_flicker_179 rfl (by decide) rfl ?_
            refine WP.il (pc := 181) hC dX6_flicker_181 rfl ?_
            refine WP.ifeq (pc := 183) hC dX6_flicker_183 194 (by decide) (fun h183 => ?_) (fun h183 => ?_)
            · rw [b2_0] at h183
              refine WP.il (pc := 194) hC dX6_flicker_194 rfl ?_
              refine WP.il (pc := 196) hC dX6_flicker_196 rfl ?_
              refine WP.idiv (pc := 198) hC dX6_flicker_198 (nI_ne0 hg0 (by omega)) ?_
              refine WP.iret (pc := 199) hC rfl dX6_flicker_199 ?_ ?_ ?_
              all_goals (first | rfl | (subst h183; rfl) | (subst h183; exact pk_div (by omega) hg0 (by omega)))
            · rw [b2_n0] at h183
              refine WP.il (pc := 186) hC dX6_flicker_186 rfl ?_
              refine WP.il (pc := 188) hC dX6_flicker_188 rfl ?_
              refine WP.idiv (pc := 190) hC dX6_flicker_190 (nI_ne0 hg0 (by omega)) ?_
              refine WP.goto (pc := 191) hC dX6_flicker_191 199 (by decide) ?_
              refine WP.iret (pc := 199) hC rfl dX6_flicker_199 ?_ ?_ ?_
              all_goals (first | rfl | (subst h183; rfl) | (subst h183; exact pk_div (by omega) hg0 (by omega)))
          · have hq : q < 2 ^ nr := (nI_ltI (by omega) (by omega)).mp (i_nle.mp h54)
            have hvo := ih hq
            have hpl := pc_lt nr hr5 q hq
            refine WP.iln (pc := 57) hC dX6_flicker_57 rfl ?_
            refine WP.il (pc := 58) hC dX6_flicker_58 rfl ?_
            refine WP.callSI (pc := 60) hC dX6_flicker_60 (k_X6_ones _ F L wM _) ml_X6_137 rfl rfl (Nat.le_of_ble_eq_true rfl) ⟨by decide, by decide⟩ ?_
            rw [on5 q (by omega)]
            refine WP.callSI (pc := 63) hC dX6_flicker_63 (k_X6_power _ F L wM x (pcN q) (by omega)) ml_X6_145 rfl rfl (Nat.le_of_ble_eq_true rfl) ⟨by decide, by decide⟩ ?_
            refine WP.bipush (pc := 66) hC dX6_flicker_66 10 (by decide) ?_
            refine WP.iln (pc := 68) hC dX6_flicker_68 rfl ?_
            refine WP.isub (pc := 69) hC dX6_flicker_69 ?_
            rw [show (10 : Int32) - nI x = nI (10 - x) from pk_sub (a := 10) hx10]
            refine WP.aln (pc := 70) hC dX6_flicker_70 rfl ?_
            refine WP.gf (pc := 71) hC dX6_flicker_71 fl_X6_86 (by decide) rfl rfl ?_
            refine WP.il (pc := 74) hC dX6_flicker_74 rfl ?_
            refine WP.callSI (pc := 76) hC dX6_flicker_76 (k_X6_ones _ F L wM _) ml_X6_137 rfl rfl (Nat.le_of_ble_eq_true rfl) ⟨by decide, by decide⟩ ?_
            rw [on5 q (by omega)]
            refine WP.isub (pc := 79) hC dX6_flicker_79 ?_
            rw [hM.1, pk_sub hpl]
            refine WP.callSI (pc := 80) hC dX6_flicker_80 (k_X6_power _ F L wM (10 - x) (nr - pcN q) (by omega)) ml_X6_145 rfl rfl (Nat.le_of_ble_eq_true rfl) ⟨by decide, by decide⟩ ?_
            refine WP.imul (pc := 83) hC dX6_flicker_83 ?_
            rw [pk_mul, show x ^ pcN q * (10 - x) ^ (nr - pcN q) = fwt x nr q from rfl]
            refine WP.is (lv' := [_, _, _, _, _, _, _, _, _, _, _]) (pc := 84) hC dX6_flicker_84 rfl (by decide) rfl ?_
            refine WP.iconst (pc := 86) hC dX6_flicker_86 0 (by decide) ?_
            refine WP.is (lv' := [_, _, _, _, _, _, _, _, _, _, _]) (pc := 87) hC dX6_flicker_87 rfl (by decide) rfl ?_
            refine WP.iconst (pc := 89) hC dX6_flicker_89 0 (by decide) ?_
            refine WP.is (lv' := [_, _, _, _, _, _, _, _, _, _, _]) (pc := 90) hC dX6_flicker_90 rfl (by decide) rfl ?_
            have loop2 : ∀ r, r ≤ nr → WP x0 11 wM d (QI x0 wM d (frR (nI (suS F j x m nr (2 ^ nr))) (suS F j x m nr (2 ^ nr)) (10 ^ nr) up) F L) 92 [some (.ref 0), some (.int (nI j)), some (.int (nI m)), some (.int (nI x)), some (.int (b2 up)), some (.int (nI (suS F j x m nr q))), some (.int (nI (suA x nr q))), some (.int (nI q)), some (.int (nI (fwt x nr q))), some (.int (nI (cntN (fyM F j q) r))), some (.int (nI r))] [] F L := by
              refine loop_c (n := nr) (P := fun r => WP x0 11 wM d (QI x0 wM d (frR (nI (suS F j x m nr (2 ^ nr))) (suS F j x m nr (2 ^ nr)) (10 ^ nr) up) F L) 92 [some (.ref 0), some (.int (nI j)), some (.int (nI m)), some (.int (nI x)), some (.int (b2 up)), some (.int (nI (suS F j x m nr q))), some (.int (nI (suA x nr q))), some (.int (nI q)), some (.int (nI (fwt x nr q))), some (.int (nI (cntN (fyM F j q) r))), some (.int (nI r))] [] F L) ?_
              intro r hr0 ih2
              refine WP.il (pc := 92) hC dX6_flicker_92 rfl ?_
              refine WP.aln (pc := 94) hC dX6_flicker_94 rfl ?_
              refine WP.gf (pc := 95) hC dX6_flicker_95 fl_X6_86 (by decide) rfl rfl ?_
              refine WP.icge (pc := 98) hC dX6_flicker_98 142 (by decide) (fun h98 => ?_) (fun h98 => ?_)
              · have h_r : r = nr := by
                  have h98 := h98
                  rw [hM.1] at h98
                  have := (nI_leI (by omega) (by omega)).mp h98
                  omega
                rw [h_r]
                have hcn := cntN_le (fyM F j q) nr
                refine WP.il (pc := 142) hC dX6_flicker_142 rfl ?_
                refine WP.il (pc := 144) hC dX6_flicker_144 rfl ?_
                refine WP.iadd (pc := 146) hC dX6_flicker_146 ?_
                rw [nI_add, show suA x nr q + fwt x nr q = suA x nr (q + 1) from rfl]
                refine WP.is (lv' := [_, _, _, _, _, _, _, _, _, _, _]) (pc := 147) hC dX6_flicker_147 rfl (by decide) rfl ?_
                refine WP.il (pc := 149) hC dX6_flicker_149 rfl ?_
                refine WP.il (pc := 151) hC dX6_flicker_151 rfl ?_
                refine WP.iln (pc := 153) hC dX6_flicker_153 rfl ?_
                refine WP.iclt (pc := 154) hC dX6_flicker_154 162 (by decide) (fun h154 => ?_) (fun h154 => ?_)
                · have hm2 : ¬ m ≤ cntN (fyM F j q) nr := Nat.not_le.mpr ((nI_ltI (by omega) (by omega)).mp h154)
                  refine WP.iconst (pc := 162) hC dX6_flicker_162 0 (by decide) ?_
                  refine WP.iadd (pc := 163) hC dX6_flicker_163 ?_
                  first | rw [nI_add] | rw [Int32.add_zero]
                  refine WP.is (lv' := [_, _, _, _, _, _, _, _, _, _, _]) (pc := 164) hC dX6_flicker_164 rfl (by decide) rfl ?_
                  refine WP.iinc (lv' := [_, _, _, _, _, _, _, _, _, _, _]) (pc := 166) hC dX6_flicker_166 rfl (_ + 1) rfl rfl (by decide) rfl ?_
                  refine WP.goto (pc := 169) hC dX6_flicker_169 46 (by decide) ?_
                  rw [nIp1]
                  have hz := hvo
                  rw [suS] at hz
                  first | (rw [if_pos hm2] at hz; exact hz _ _ _) | (rw [if_neg hm2, Nat.add_zero] at hz; exact hz _ _ _)
                · have hm2 : m ≤ cntN (fyM F j q) nr := (nI_leI (by omega) (by omega)).mp (i_nlt.mp h154)
                  refine WP.il (pc := 157) hC dX6_flicker_157 rfl ?_
                  refine WP.goto (pc := 159) hC dX6_flicker_159 163 (by decide) ?_
                  refine WP.iadd (pc := 163) hC dX6_flicker_163 ?_
                  first | rw [nI_add] | rw [Int32.add_zero]
                  refine WP.is (lv' := [_, _, _, _, _, _, _, _, _, _, _]) (pc := 164) hC dX6_flicker_164 rfl (by decide) rfl ?_
                  refine WP.iinc (lv' := [_, _, _, _, _, _, _, _, _, _, _]) (pc := 166) hC dX6_flicker_166 rfl (_ + 1) rfl rfl (by decide) rfl ?_
                  refine WP.goto (pc := 169) hC dX6_flicker_169 46 (by decide) ?_
                  rw [nIp1]
                  have hz := hvo
                  rw [suS] at hz
                  first | (rw [if_pos hm2] at hz; exact hz _ _ _) | (rw [if_neg hm2, Nat.add_zero] at hz; exact hz _ _ _)
              · have h_r : r < nr := by
                  have h98 := h98
                  rw [hM.1] at h98
                  exact (nI_ltI (by omega) (by omega)).mp (i_nle.mp h98)
                have hv := ih2 h_r
                refine WP.il (pc := 101) hC dX6_flicker_101 rfl ?_
                refine WP.aln (pc := 103) hC dX6_flicker_103 rfl ?_
                refine WP.il (pc := 104) hC dX6_flicker_104 rfl ?_
                refine WP.aln (pc := 106) hC dX6_flicker_106 rfl ?_
                refine WP.iconst (pc := 107) hC dX6_flicker_107 0 (by decide) ?_
                refine WP.il (pc := 108) hC dX6_flicker_108 rfl ?_
                refine WP.iln (pc := 110) hC dX6_flicker_110 rfl ?_
                refine WP.callVI (pc := 111) hC dX6_flicker_111 (k_X6_brightOn _ F L 0 r j (by decide) (by omega) (by omega)) ml_X6_99 rfl rfl (by decide) rfl (Nat.le_of_ble_eq_true rfl) ⟨by decide, by decide⟩ ?_
                refine WP.il (pc := 114) hC dX6_flicker_114 rfl ?_
                refine WP.il (pc := 116) hC dX6_flicker_116 rfl ?_
                refine WP.ishr (pc := 118) hC dX6_flicker_118 ?_
                refine WP.iconst (pc := 119) hC dX6_flicker_119 1 (by decide) ?_
                refine WP.iand (pc := 120) hC dX6_flicker_120 ?_
                rw [bit5 q (by omega) r (by omega)]
                refine WP.iadd (pc := 121) hC dX6_flicker_121 ?_
                refine WP.callVI (pc := 122) hC dX6_flicker_122 (k_X6_saysYes _ F L r _ (by omega)) ml_X6_103 rfl rfl (by decide) rfl (Nat.le_of_ble_eq_true rfl) ⟨by decide, by decide⟩ ?_
                rw [show saysB (F 3 r) (F 2 r) (brM F 0 j r + nI (q / 2 ^ r % 2)) = fyM F j q r from rfl]
                refine WP.ifeq (pc := 125) hC dX6_flicker_125 132 (by decide) (fun h125 => ?_) (fun h125 => ?_)
                · rw [b2_0] at h125
                  refine WP.iconst (pc := 132) hC dX6_flicker_132 0 (by decide) ?_
                  refine WP.iadd (pc := 133) hC dX6_flicker_133 ?_
                  first | rw [show nI (cntN (fyM F j q) r) + 1 = nI (cntN (fyM F j q) r + 1) from nI_add _ 1] | rw [Int32.add_zero]
                  refine WP.is (lv' := [_, _, _, _, _, _, _, _, _, _, _]) (pc := 134) hC dX6_flicker_134 rfl (by decide) rfl ?_
                  refine WP.iinc (lv' := [_, _, _, _, _, _, _, _, _, _, _]) (pc := 136) hC dX6_flicker_136 rfl (_ + 1) rfl rfl (by decide) rfl ?_
                  refine WP.goto (pc := 139) hC dX6_flicker_139 92 (by decide) ?_
                  rw [nIp1]
                  first | (rw [cnt_t h125] at hv; exact hv) | (rw [cnt_f h125] at hv; exact hv)
                · rw [b2_n0] at h125
                  refine WP.iconst (pc := 128) hC dX6_flicker_128 1 (by decide) ?_
                  refine WP.goto (pc := 129) hC dX6_flicker_129 133 (by decide) ?_
                  refine WP.iadd (pc := 133) hC dX6_flicker_133 ?_
                  first | rw [show nI (cntN (fyM F j q) r) + 1 = nI (cntN (fyM F j q) r + 1) from nI_add _ 1] | rw [Int32.add_zero]
                  refine WP.is (lv' := [_, _, _, _, _, _, _, _, _, _, _]) (pc := 134) hC dX6_flicker_134 rfl (by decide) rfl ?_
                  refine WP.iinc (lv' := [_, _, _, _, _, _, _, _, _, _, _]) (pc := 136) hC dX6_flicker_136 rfl (_ + 1) rfl rfl (by decide) rfl ?_
                  refine WP.goto (pc := 139) hC dX6_flicker_139 92 (by decide) ?_
                  rw [nIp1]
                  first | (rw [cnt_t h125] at hv; exact hv) | (rw [cnt_f h125] at hv; exact hv)
            exact loop2 0 (Nat.zero_le _)
        refine WP.iconst (pc := 37) hC dX6_flicker_37 0 (by decide) ?_
        refine WP.is (lv' := [_, _, _, _, _, _, _, _, _, _, _]) (pc := 38) hC dX6_flicker_38 rfl (by decide) rfl ?_
        refine WP.iconst (pc := 40) hC dX6_flicker_40 0 (by decide) ?_
        refine WP.is (lv' := [_, _, _, _, _, _, _, _, _, _, _]) (pc := 41) hC dX6_flicker_41 rfl (by decide) rfl ?_
        refine WP.iconst (pc := 43) hC dX6_flicker_43 0 (by decide) ?_
        refine WP.is (lv' := [_, _, _, _, _, _, _, _, _, _, _]) (pc := 44) hC dX6_flicker_44 rfl (by decide) rfl ?_
        exact loop 0 (Nat.zero_le _) _ _ _
      · refine WP.bipush (pc := 34) hC dX6_flicker_34 (-2) (by decide) ?_
        refine WP.iret (pc := 36) hC rfl dX6_flicker_36 ?_ ?_ ?_
        all_goals (first | rfl | (unfold flMR; rw [if_pos h5]; refine (if_neg ?_).symm; unfold flOk; rw [Bool.and_eq_true, Bool.and_eq_true, Bool.and_eq_true, decide_eq_true_eq, decide_eq_true_eq, decide_eq_true_eq, decide_eq_true_eq]; rintro ⟨⟨q1, q2⟩, q3, q4⟩; first | (rw [b2_0, Bool.and_eq_false_iff, decide_eq_false_iff_not, decide_eq_false_iff_not] at h31; rcases h31 with z | z; exact z q3; exact z q4) | (rw [b2_0, Bool.and_eq_false_iff, decide_eq_false_iff_not, decide_eq_false_iff_not] at h19; rcases h19 with z | z; exact z q1; exact z q2)))
  · rw [b2_0] at h5
    refine WP.iconst (pc := 8) hC dX6_flicker_8 (-1) (by decide) ?_
    refine WP.iret (pc := 9) hC rfl dX6_flicker_9 ?_ ?_ ?_
    all_goals (first | rfl | (unfold flMR; rw [if_neg (by rw [h5]; decide)]))
