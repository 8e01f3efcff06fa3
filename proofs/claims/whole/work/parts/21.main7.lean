/-! ===== NewRays: rests, flicker ===== -/
def gI (a b R O : Bool) : Int32 := if a = false then 0 else if b = false then (if R = true then 2 else -1) else if R = O then 1 else if R = true then 3 else -3
def ctB (a b R O : Bool) : Bool := decide (gI (!a) b R O ≤ gI a b R O)
theorem b2_not (a : Bool) : 1 - b2 a = b2 (!a) := by cases a <;> decide
def tb (q i : Nat) : Bool := decide (q / 2 ^ i % 2 = 1)
theorem tb_eq : ∀ q, q < 32 → ∀ i, i < 5 → ((nI q >>> (nI i &&& 31)) &&& 1 = 1 ↔ tb q i = true) := by decide +kernel
theorem rightS_lt {F : FF} {nr j : Nat} (h : nr ≤ 5) : rightS F nr j < 32 := by
  have h1 := bits_lt (sayF F (tru (F 19 3)) (tru (F 19 4)) j) nr
  have h2 := (pow5 nr h).1
  unfold rightS yesS
  split <;> omega
/-- pairs at rest: how many, the first -/
def rtB (R O : Bool) (a b : Bool) : Bool := ctB a b R O && ctB b a O R
def rtC (R O : Bool) : Nat := (if rtB R O false false = true then 1 else 0) + (if rtB R O false true = true then 1 else 0) + (if rtB R O true false = true then 1 else 0) + (if rtB R O true true = true then 1 else 0)
def rtF (R O : Bool) : Int32 := if rtB R O false false = true then 0 else if rtB R O false true = true then 1 else if rtB R O true false = true then 10 else if rtB R O true true = true then 11 else -9
def rtR (F : FF) (nr ns : Nat) (r o s w : Int32) : Int32 := if (chk r nr s ns && hasB o nr) = true then (if ¬ r = o ∧ 0 ≤ w ∧ w ≤ 1 then (if w = 0 then nI (rtC (tb (rightS F nr (ix s)) (ix r)) (tb (rightS F nr (ix s)) (ix o))) else rtF (tb (rightS F nr (ix s)) (ix r)) (tb (rightS F nr (ix s)) (ix o))) else -2) else -1

set_option maxHeartbeats 4000000 in
theorem k_X5_gain (l : Launch) (F : FF) (L : Int64) (wd : WD) (a b R O : Bool) : CI l yX5_gain cX5_gain 4 (some .int) (rmx 0 0) wd [.int (b2 a), .int (b2 b), .int (b2 R), .int (b2 O)] F L (gI a b R O) F L := by
  refine mkI [some (.int (b2 a)), some (.int (b2 b)), some (.int (b2 R)), some (.int (b2 O))] 0 (by decide) rfl (Nat.le_of_ble_eq_true rfl) ?_
  intro x d hx hC
  subst hx
  have hC : Cx x cX5_gain 4 RX5 (some .int) (rmx 0 0) wd d := hC
  refine WP.iln (pc := 0) hC dX5_gain_0 rfl ?_
  refine WP.ifne (pc := 1) hC dX5_gain_1 6 (by decide) (fun h1 => ?_) (fun h1 => ?_)
  · rw [b2_n0] at h1
    refine WP.iln (pc := 6) hC dX5_gain_6 rfl ?_
    refine WP.ifne (pc := 7) hC dX5_gain_7 20 (by decide) (fun h7 => ?_) (fun h7 => ?_)
    · rw [b2_n0] at h7
      refine WP.iln (pc := 20) hC dX5_gain_20 rfl ?_
      refine WP.iln (pc := 21) hC dX5_gain_21 rfl ?_
      refine WP.icne (pc := 22) hC dX5_gain_22 27 (by decide) (fun h22 => ?_) (fun h22 => ?_)
      · have h22 : ¬ R = O := fun z => h22 (by rw [z])
        refine WP.iln (pc := 27) hC dX5_gain_27 rfl ?_
        refine WP.ifeq (pc := 28) hC dX5_gain_28 35 (by decide) (fun h28 => ?_) (fun h28 => ?_)
        · rw [b2_0] at h28
          refine WP.bipush (pc := 35) hC dX5_gain_35 (-3) (by decide) ?_
          refine WP.iret (pc := 37) hC rfl dX5_gain_37 ?_ ?_ ?_
          all_goals (first | rfl | (unfold gI; rw [if_neg (by simp [h1]), if_neg (by simp [h7]), if_neg h22, h28]; rfl))
        · rw [b2_n0] at h28
          refine WP.iconst (pc := 31) hC dX5_gain_31 3 (by decide) ?_
          refine WP.goto (pc := 32) hC dX5_gain_32 37 (by decide) ?_
          refine WP.iret (pc := 37) hC rfl dX5_gain_37 ?_ ?_ ?_
          all_goals (first | rfl | (unfold gI; rw [if_neg (by simp [h1]), if_neg (by simp [h7]), if_neg h22, h28]; rfl))
      · have h22 := b2_inj h22
        refine WP.iconst (pc := 25) hC dX5_gain_25 1 (by decide) ?_
        refine WP.iret (pc := 26) hC rfl dX5_gain_26 ?_ ?_ ?_
        all_goals (first | rfl | (simp [gI, h1, h7, h22]; done))
    · rw [b2_0] at h7
      refine WP.iln (pc := 10) hC dX5_gain_10 rfl ?_
      refine WP.ifeq (pc := 11) hC dX5_gain_11 18 (by decide) (fun h11 => ?_) (fun h11 => ?_)
      · rw [b2_0] at h11
        refine WP.iconst (pc := 18) hC dX5_gain_18 (-1) (by decide) ?_
        refine WP.iret (pc := 19) hC rfl dX5_gain_19 ?_ ?_ ?_
        all_goals (first | rfl | (simp [gI, h1, h7, h11]; done))
      · rw [b2_n0] at h11
        refine WP.iconst (pc := 14) hC dX5_gain_14 2 (by decide) ?_
        refine WP.goto (pc := 15) hC dX5_gain_15 19 (by decide) ?_
        refine WP.iret (pc := 19) hC rfl dX5_gain_19 ?_ ?_ ?_
        all_goals (first | rfl | (simp [gI, h1, h7, h11]; done))
  · rw [b2_0] at h1
    refine WP.iconst (pc := 4) hC dX5_gain_4 0 (by decide) ?_
    refine WP.iret (pc := 5) hC rfl dX5_gain_5 ?_ ?_ ?_
    all_goals (first | rfl | (simp [gI, h1]; done))
set_option maxHeartbeats 4000000 in
theorem k_X5_isContent (l : Launch) (F : FF) (L : Int64) (wd : WD) (a b R O : Bool) : CI l yX5_isContent cX5_isContent 4 (some .boolean) (rmx 1 23) wd [.int (b2 a), .int (b2 b), .int (b2 R), .int (b2 O)] F L (b2 (ctB a b R O)) F L := by
  refine mkI [some (.int (b2 a)), some (.int (b2 b)), some (.int (b2 R)), some (.int (b2 O))] 0 (by decide) rfl (Nat.le_of_ble_eq_true rfl) ?_
  intro x d hx hC
  subst hx
  have hC : Cx x cX5_isContent 4 RX5 (some .boolean) (rmx 1 23) wd d := hC
  refine WP.iln (pc := 0) hC dX5_isContent_0 rfl ?_
  refine WP.iln (pc := 1) hC dX5_isContent_1 rfl ?_
  refine WP.iln (pc := 2) hC dX5_isContent_2 rfl ?_
  refine WP.iln (pc := 3) hC dX5_isContent_3 rfl ?_
  refine WP.callSI (pc := 4) hC dX5_isContent_4 (k_X5_gain _ F L wd a b R O) ml_X5_266 rfl rfl (Nat.le_of_ble_eq_true rfl) ⟨by decide, by decide⟩ ?_
  refine WP.iconst (pc := 7) hC dX5_isContent_7 1 (by decide) ?_
  refine WP.iln (pc := 8) hC dX5_isContent_8 rfl ?_
  refine WP.isub (pc := 9) hC dX5_isContent_9 ?_
  rw [b2_not]
  refine WP.iln (pc := 10) hC dX5_isContent_10 rfl ?_
  refine WP.iln (pc := 11) hC dX5_isContent_11 rfl ?_
  refine WP.iln (pc := 12) hC dX5_isContent_12 rfl ?_
  refine WP.callSI (pc := 13) hC dX5_isContent_13 (k_X5_gain _ F L wd (!a) b R O) ml_X5_266 rfl rfl (Nat.le_of_ble_eq_true rfl) ⟨by decide, by decide⟩ ?_
  refine WP.iclt (pc := 16) hC dX5_isContent_16 23 (by decide) (fun h16 => ?_) (fun h16 => ?_)
  · refine WP.iconst (pc := 23) hC dX5_isContent_23 0 (by decide) ?_
    refine WP.zret (pc := 24) hC rfl (by first | exact Or.inl rfl | exact Or.inr rfl | exact b2_01 _) dX5_isContent_24 ?_ ?_ ?_
    all_goals (first | rfl | (unfold ctB; simp [b2, i_nlt.mp h16]; done) | (unfold ctB; simp [b2, i_nle.mpr h16]; done))
  · refine WP.iconst (pc := 19) hC dX5_isContent_19 1 (by decide) ?_
    refine WP.goto (pc := 20) hC dX5_isContent_20 24 (by decide) ?_
    refine WP.zret (pc := 24) hC rfl (by first | exact Or.inl rfl | exact Or.inr rfl | exact b2_01 _) dX5_isContent_24 ?_ ?_ ?_
    all_goals (first | rfl | (unfold ctB; simp [b2, i_nlt.mp h16]; done) | (unfold ctB; simp [b2, i_nle.mpr h16]; done))
set_option maxHeartbeats 4000000 in
theorem k_X5_rests (l : Launch) (F : FF) (L : Int64) (nr ns : Nat) (r o s w : Int32) (hN : NR F nr ns) (hZ : BZ F) : CI l yX5_rests cX5_rests 11 (some .int) (rmx 6 139) wN [.ref 0, .int r, .int o, .int s, .int w] F L (rtR F nr ns r o s w) F L := by
  refine mkI [some (.ref 0), some (.int r), some (.int o), some (.int s), some (.int w), none, none, none, none, none, none] 6 (by decide) rfl (Nat.le_of_ble_eq_true rfl) ?_
  intro x d hx hC
  subst hx
  have hC : Cx x cX5_rests 11 RX5 (some .int) (rmx 6 139) wN d := hC
  refine WP.aln (pc := 0) hC dX5_rests_0 rfl ?_
  refine WP.gf (pc := 1) hC dX5_rests_1 fl_X5_19 (by decide) rfl rfl ?_
  refine WP.iln (pc := 4) hC dX5_rests_4 rfl ?_
  refine WP.iln (pc := 5) hC dX5_rests_5 rfl ?_
  refine WP.callVI (pc := 6) hC dX5_rests_6 (k_X3_hasBoth _ F L nr ns r s hN) ml_X5_123 rfl rfl (by decide) rfl (Nat.le_of_ble_eq_true rfl) ⟨by decide, by decide⟩ ?_
  refine WP.ifeq (pc := 9) hC dX5_rests_9 23 (by decide) (fun h9 => ?_) (fun h9 => ?_)
  · refine WP.iconst (pc := 23) hC dX5_rests_23 (-1) (by decide) ?_
    refine WP.iret (pc := 24) hC rfl dX5_rests_24 ?_ ?_ ?_
    all_goals (first | rfl | (unfold rtR; refine (if_neg ?_).symm; unfold chk; first | (rw [b2_0] at h9; rw [h9, Bool.false_and]; decide) | (rw [b2_0] at h20; rw [h20, Bool.and_false]; decide)))
  · refine WP.aln (pc := 12) hC dX5_rests_12 rfl ?_
    refine WP.gf (pc := 13) hC dX5_rests_13 fl_X5_19 (by decide) rfl rfl ?_
    refine WP.iln (pc := 16) hC dX5_rests_16 rfl ?_
    refine WP.callVI (pc := 17) hC dX5_rests_17 (k_X3_hasReader _ F L nr ns o hN) ml_X5_88 rfl rfl (by decide) rfl (Nat.le_of_ble_eq_true rfl) ⟨by decide, by decide⟩ ?_
    refine WP.ifne (pc := 20) hC dX5_rests_20 25 (by decide) (fun h20 => ?_) (fun h20 => ?_)
    · have hR : hasB r nr = true ∧ hasB s ns = true ∧ hasB o nr = true := by
        rw [b2_n0, Bool.and_eq_true] at h9
        rw [b2_n0] at h20
        exact ⟨h9.1, h9.2, h20⟩
      obtain ⟨i, hi, rfl⟩ := hasB_of hN.2.2.1 hR.1
      obtain ⟨j, hj, rfl⟩ := hasB_of (by have := hN.2.2.2; omega) hR.2.1
      obtain ⟨k, hk, rfl⟩ := hasB_of hN.2.2.1 hR.2.2
      have hr5 := hN.2.2.1
      have hs4 := hN.2.2.2
      have ei : ix (nI i) = i := ix_nI (by omega)
      have ej : ix (nI j) = j := ix_nI (by omega)
      have ek : ix (nI k) = k := ix_nI (by omega)
      have hc9 : (chk (nI i) nr (nI j) ns && hasB (nI k) nr) = true := by unfold chk; rw [hR.1, hR.2.1, hR.2.2]; rfl
      refine WP.iln (pc := 25) hC dX5_rests_25 rfl ?_
      refine WP.iln (pc := 26) hC dX5_rests_26 rfl ?_
      refine WP.iceq (pc := 27) hC dX5_rests_27 41 (by decide) (fun h27 => ?_) (fun h27 => ?_)
      · refine WP.bipush (pc := 41) hC dX5_rests_41 (-2) (by decide) ?_
        refine WP.iret (pc := 43) hC rfl dX5_rests_43 ?_ ?_ ?_
        all_goals (first | rfl | (unfold rtR; rw [if_pos hc9]; refine (if_neg ?_).symm; rintro ⟨q1, q2, q3⟩; first | exact q1 h27 | exact i_nlt.mpr q2 h32 | exact h38 q3))
      · refine WP.il (pc := 30) hC dX5_rests_30 rfl ?_
        refine WP.iflt (pc := 32) hC dX5_rests_32 41 (by decide) (fun h32 => ?_) (fun h32 => ?_)
        · refine WP.bipush (pc := 41) hC dX5_rests_41 (-2) (by decide) ?_
          refine WP.iret (pc := 43) hC rfl dX5_rests_43 ?_ ?_ ?_
          all_goals (first | rfl | (unfold rtR; rw [if_pos hc9]; refine (if_neg ?_).symm; rintro ⟨q1, q2, q3⟩; first | exact q1 h27 | exact i_nlt.mpr q2 h32 | exact h38 q3))
        · refine WP.il (pc := 35) hC dX5_rests_35 rfl ?_
          refine WP.iconst (pc := 37) hC dX5_rests_37 1 (by decide) ?_
          refine WP.icle (pc := 38) hC dX5_rests_38 44 (by decide) (fun h38 => ?_) (fun h38 => ?_)
          · have hq : ¬ nI i = nI k ∧ 0 ≤ w ∧ w ≤ 1 := ⟨h27, i_nlt.mp h32, h38⟩
            have eV : rtR F nr ns (nI i) (nI k) (nI j) w = if w = 0 then nI (rtC (tb (rightS F nr j) i) (tb (rightS F nr j) k)) else rtF (tb (rightS F nr j) i) (tb (rightS F nr j) k) := by unfold rtR; rw [if_pos hc9, if_pos hq, ei, ej, ek]
            rw [eV]
            have hlt := rightS_lt (F := F) (nr := nr) (j := j) hr5
            have tail : ∀ R O : Bool, WP x 11 wN d (QI x wN d (if w = 0 then nI (rtC R O) else rtF R O) F L) 84 [some (.ref 0), some (.int (nI i)), some (.int (nI k)), some (.int (nI j)), some (.int w), some (.int (b2 R)), some (.int (b2 O)), none, none, none, none] [] F L := by
              intro R O
              cases R <;> cases O
              · refine WP.iconst (pc := 84) hC dX5_rests_84 0 (by decide) ?_
                refine WP.is (lv' := [_, _, _, _, _, _, _, _, _, _, _]) (pc := 85) hC dX5_rests_85 rfl (by decide) rfl ?_
                refine WP.bipush (pc := 87) hC dX5_rests_87 (-9) (by decide) ?_
                refine WP.is (lv' := [_, _, _, _, _, _, _, _, _, _, _]) (pc := 89) hC dX5_rests_89 rfl (by decide) rfl ?_
                refine WP.iconst (pc := 91) hC dX5_rests_91 0 (by decide) ?_
                refine WP.is (lv' := [_, _, _, _, _, _, _, _, _, _, _]) (pc := 92) hC dX5_rests_92 rfl (by decide) rfl ?_
                refine WP.il (pc := 94) hC dX5_rests_94 rfl ?_
                refine WP.iconst (pc := 96) hC dX5_rests_96 1 (by decide) ?_
                refine WP.icgt (pc := 97) hC dX5_rests_97 172 (by decide) (fun h97 => absurd h97 (by decide)) (fun h97 => ?_)
                refine WP.iconst (pc := 100) hC dX5_rests_100 0 (by decide) ?_
                refine WP.is (lv' := [_, _, _, _, _, _, _, _, _, _, _]) (pc := 101) hC dX5_rests_101 rfl (by decide) rfl ?_
                refine WP.il (pc := 103) hC dX5_rests_103 rfl ?_
                refine WP.iconst (pc := 105) hC dX5_rests_105 1 (by decide) ?_
                refine WP.icgt (pc := 106) hC dX5_rests_106 166 (by decide) (fun h106 => absurd h106 (by decide)) (fun h106 => ?_)
                refine WP.il (pc := 109) hC dX5_rests_109 rfl ?_
                refine WP.il (pc := 111) hC dX5_rests_111 rfl ?_
                refine WP.il (pc := 113) hC dX5_rests_113 rfl ?_
                refine WP.il (pc := 115) hC dX5_rests_115 rfl ?_
                refine WP.callSI (pc := 117) hC dX5_rests_117 (k_X5_isContent _ F L wN false false false false) ml_X5_226 rfl rfl (Nat.le_of_ble_eq_true rfl) ⟨by decide, by decide⟩ ?_
                refine WP.ifeq (pc := 120) hC dX5_rests_120 160 (by decide) (fun h120 => absurd h120 (by decide)) (fun h120 => ?_)
                refine WP.il (pc := 123) hC dX5_rests_123 rfl ?_
                refine WP.il (pc := 125) hC dX5_rests_125 rfl ?_
                refine WP.il (pc := 127) hC dX5_rests_127 rfl ?_
                refine WP.il (pc := 129) hC dX5_rests_129 rfl ?_
                refine WP.callSI (pc := 131) hC dX5_rests_131 (k_X5_isContent _ F L wN false false false false) ml_X5_226 rfl rfl (Nat.le_of_ble_eq_true rfl) ⟨by decide, by decide⟩ ?_
                refine WP.ifeq (pc := 134) hC dX5_rests_134 160 (by decide) (fun h134 => absurd h134 (by decide)) (fun h134 => ?_)
                refine WP.il (pc := 137) hC dX5_rests_137 rfl ?_
                refine WP.ifne (pc := 139) hC dX5_rests_139 153 (by decide) (fun h139 => absurd h139 (by decide)) (fun h139 => ?_)
                refine WP.bipush (pc := 142) hC dX5_rests_142 10 (by decide) ?_
                refine WP.il (pc := 144) hC dX5_rests_144 rfl ?_
                refine WP.imul (pc := 146) hC dX5_rests_146 ?_
                refine WP.il (pc := 147) hC dX5_rests_147 rfl ?_
                refine WP.iadd (pc := 149) hC dX5_rests_149 ?_
                refine WP.goto (pc := 150) hC dX5_rests_150 155 (by decide) ?_
                refine WP.is (lv' := [_, _, _, _, _, _, _, _, _, _, _]) (pc := 155) hC dX5_rests_155 rfl (by decide) rfl ?_
                refine WP.iinc (lv' := [_, _, _, _, _, _, _, _, _, _, _]) (pc := 157) hC dX5_rests_157 rfl (_ + 1) rfl rfl (by decide) rfl ?_
                refine WP.iinc (lv' := [_, _, _, _, _, _, _, _, _, _, _]) (pc := 160) hC dX5_rests_160 rfl (_ + 1) rfl rfl (by decide) rfl ?_
                refine WP.goto (pc := 163) hC dX5_rests_163 103 (by decide) ?_
                refine WP.il (pc := 103) hC dX5_rests_103 rfl ?_
                refine WP.iconst (pc := 105) hC dX5_rests_105 1 (by decide) ?_
                refine WP.icgt (pc := 106) hC dX5_rests_106 166 (by decide) (fun h106 => absurd h106 (by decide)) (fun h106 => ?_)
                refine WP.il (pc := 109) hC dX5_rests_109 rfl ?_
                refine WP.il (pc := 111) hC dX5_rests_111 rfl ?_
                refine WP.il (pc := 113) hC dX5_rests_113 rfl ?_
                refine WP.il (pc := 115) hC dX5_rests_115 rfl ?_
                refine WP.callSI (pc := 117) hC dX5_rests_117 (k_X5_isContent _ F L wN false true false false) ml_X5_226 rfl rfl (Nat.le_of_ble_eq_true rfl) ⟨by decide, by decide⟩ ?_
                refine WP.ifeq (pc := 120) hC dX5_rests_120 160 (by decide) (fun h120 => ?_) (fun h120 => absurd h120 (by decide))
                refine WP.iinc (lv' := [_, _, _, _, _, _, _, _, _, _, _]) (pc := 160) hC dX5_rests_160 rfl (_ + 1) rfl rfl (by decide) rfl ?_
                refine WP.goto (pc := 163) hC dX5_rests_163 103 (by decide) ?_
                refine WP.il (pc := 103) hC dX5_rests_103 rfl ?_
                refine WP.iconst (pc := 105) hC dX5_rests_105 1 (by decide) ?_
                refine WP.icgt (pc := 106) hC dX5_rests_106 166 (by decide) (fun h106 => ?_) (fun h106 => absurd h106 (by decide))
                refine WP.iinc (lv' := [_, _, _, _, _, _, _, _, _, _, _]) (pc := 166) hC dX5_rests_166 rfl (_ + 1) rfl rfl (by decide) rfl ?_
                refine WP.goto (pc := 169) hC dX5_rests_169 94 (by decide) ?_
                refine WP.il (pc := 94) hC dX5_rests_94 rfl ?_
                refine WP.iconst (pc := 96) hC dX5_rests_96 1 (by decide) ?_
                refine WP.icgt (pc := 97) hC dX5_rests_97 172 (by decide) (fun h97 => absurd h97 (by decide)) (fun h97 => ?_)
                refine WP.iconst (pc := 100) hC dX5_rests_100 0 (by decide) ?_
                refine WP.is (lv' := [_, _, _, _, _, _, _, _, _, _, _]) (pc := 101) hC dX5_rests_101 rfl (by decide) rfl ?_
                refine WP.il (pc := 103) hC dX5_rests_103 rfl ?_
                refine WP.iconst (pc := 105) hC dX5_rests_105 1 (by decide) ?_
                refine WP.icgt (pc := 106) hC dX5_rests_106 166 (by decide) (fun h106 => absurd h106 (by decide)) (fun h106 => ?_)
                refine WP.il (pc := 109) hC dX5_rests_109 rfl ?_
                refine WP.il (pc := 111) hC dX5_rests_111 rfl ?_
                refine WP.il (pc := 113) hC dX5_rests_113 rfl ?_
                refine WP.il (pc := 115) hC dX5_rests_115 rfl ?_
                refine WP.callSI (pc := 117) hC dX5_rests_117 (k_X5_isContent _ F L wN true false false false) ml_X5_226 rfl rfl (Nat.le_of_ble_eq_true rfl) ⟨by decide, by decide⟩ ?_
                refine WP.ifeq (pc := 120) hC dX5_rests_120 160 (by decide) (fun h120 => ?_) (fun h120 => absurd h120 (by decide))
                refine WP.iinc (lv' := [_, _, _, _, _, _, _, _, _, _, _]) (pc := 160) hC dX5_rests_160 rfl (_ + 1) rfl rfl (by decide) rfl ?_
                refine WP.goto (pc := 163) hC dX5_rests_163 103 (by decide) ?_
                refine WP.il (pc := 103) hC dX5_rests_103 rfl ?_
                refine WP.iconst (pc := 105) hC dX5_rests_105 1 (by decide) ?_
                refine WP.icgt (pc := 106) hC dX5_rests_106 166 (by decide) (fun h106 => absurd h106 (by decide)) (fun h106 => ?_)
                refine WP.il (pc := 109) hC dX5_rests_109 rfl ?_
                refine WP.il (pc := 111) hC dX5_rests_111 rfl ?_
                refine WP.il (pc := 113) hC dX5_rests_113 rfl ?_
                refine WP.il (pc := 115) hC dX5_rests_115 rfl ?_
                refine WP.callSI (pc := 117) hC dX5_rests_117 (k_X5_isContent _ F L wN true true false false) ml_X5_226 rfl rfl (Nat.le_of_ble_eq_true rfl) ⟨by decide, by decide⟩ ?_
                refine WP.ifeq (pc := 120) hC dX5_rests_120 160 (by decide) (fun h120 => absurd h120 (by decide)) (fun h120 => ?_)
                refine WP.il (pc := 123) hC dX5_rests_123 rfl ?_
                refine WP.il (pc := 125) hC dX5_rests_125 rfl ?_
                refine WP.il (pc := 127) hC dX5_rests_127 rfl ?_
                refine WP.il (pc := 129) hC dX5_rests_129 rfl ?_
                refine WP.callSI (pc := 131) hC dX5_rests_131 (k_X5_isContent _ F L wN true true false false) ml_X5_226 rfl rfl (Nat.le_of_ble_eq_true rfl) ⟨by decide, by decide⟩ ?_
                refine WP.ifeq (pc := 134) hC dX5_rests_134 160 (by decide) (fun h134 => absurd h134 (by decide)) (fun h134 => ?_)
                refine WP.il (pc := 137) hC dX5_rests_137 rfl ?_
                refine WP.ifne (pc := 139) hC dX5_rests_139 153 (by decide) (fun h139 => ?_) (fun h139 => absurd h139 (by decide))
                refine WP.il (pc := 153) hC dX5_rests_153 rfl ?_
                refine WP.is (lv' := [_, _, _, _, _, _, _, _, _, _, _]) (pc := 155) hC dX5_rests_155 rfl (by decide) rfl ?_
                refine WP.iinc (lv' := [_, _, _, _, _, _, _, _, _, _, _]) (pc := 157) hC dX5_rests_157 rfl (_ + 1) rfl rfl (by decide) rfl ?_
                refine WP.iinc (lv' := [_, _, _, _, _, _, _, _, _, _, _]) (pc := 160) hC dX5_rests_160 rfl (_ + 1) rfl rfl (by decide) rfl ?_
                refine WP.goto (pc := 163) hC dX5_rests_163 103 (by decide) ?_
                refine WP.il (pc := 103) hC dX5_rests_103 rfl ?_
                refine WP.iconst (pc := 105) hC dX5_rests_105 1 (by decide) ?_
                refine WP.icgt (pc := 106) hC dX5_rests_106 166 (by decide) (fun h106 => ?_) (fun h106 => absurd h106 (by decide))
                refine WP.iinc (lv' := [_, _, _, _, _, _, _, _, _, _, _]) (pc := 166) hC dX5_rests_166 rfl (_ + 1) rfl rfl (by decide) rfl ?_
                refine WP.goto (pc := 169) hC dX5_rests_169 94 (by decide) ?_
                refine WP.il (pc := 94) hC dX5_rests_94 rfl ?_
                refine WP.iconst (pc := 96) hC dX5_rests_96 1 (by decide) ?_
                refine WP.icgt (pc := 97) hC dX5_rests_97 172 (by decide) (fun h97 => ?_) (fun h97 => absurd h97 (by decide))
                refine WP.il (pc := 172) hC dX5_rests_172 rfl ?_
                refine WP.ifne (pc := 174) hC dX5_rests_174 182 (by decide) (fun h174 => ?_) (fun h174 => ?_)
                · refine WP.il (pc := 182) hC dX5_rests_182 rfl ?_
                  refine WP.iret (pc := 184) hC rfl dX5_rests_184 ?_ ?_ ?_
                  all_goals (first | rfl | (rw [if_pos h174]; decide) | (rw [if_neg h174]; decide))
                · refine WP.il (pc := 177) hC dX5_rests_177 rfl ?_
                  refine WP.goto (pc := 179) hC dX5_rests_179 184 (by decide) ?_
                  refine WP.iret (pc := 184) hC rfl dX5_rests_184 ?_ ?_ ?_
                  all_goals (first | rfl | (rw [if_pos h174]; decide) | (rw [if_neg h174]; decide))
              · refine WP.iconst (pc := 84) hC dX5_rests_84 0 (by decide) ?_
                refine WP.is (lv' := [_, _, _, _, _, _, _, _, _, _, _]) (pc := 85) hC dX5_rests_85 rfl (by decide) rfl ?_
                refine WP.bipush (pc := 87) hC dX5_rests_87 (-9) (by decide) ?_
                refine WP.is (lv' := [_, _, _, _, _, _, _, _, _, _, _]) (pc := 89) hC dX5_rests_89 rfl (by decide) rfl ?_
                refine WP.iconst (pc := 91) hC dX5_rests_91 0 (by decide) ?_
                refine WP.is (lv' := [_, _, _, _, _, _, _, _, _, _, _]) (pc := 92) hC dX5_rests_92 rfl (by decide) rfl ?_
                refine WP.il (pc := 94) hC dX5_rests_94 rfl ?_
                refine WP.iconst (pc := 96) hC dX5_rests_96 1 (by decide) ?_
                refine WP.icgt (pc := 97) hC dX5_rests_97 172 (by decide) (fun h97 => absurd h97 (by decide)) (fun h97 => ?_)
                refine WP.iconst (pc := 100) hC dX5_rests_100 0 (by decide) ?_
                refine WP.is (lv' := [_, _, _, _, _, _, _, _, _, _, _]) (pc := 101) hC dX5_rests_101 rfl (by decide) rfl ?_
                refine WP.il (pc := 103) hC dX5_rests_103 rfl ?_
                refine WP.iconst (pc := 105) hC dX5_rests_105 1 (by decide) ?_
                refine WP.icgt (pc := 106) hC dX5_rests_106 166 (by decide) (fun h106 => absurd h106 (by decide)) (fun h106 => ?_)
                refine WP.il (pc := 109) hC dX5_rests_109 rfl ?_
                refine WP.il (pc := 111) hC dX5_rests_111 rfl ?_
                refine WP.il (pc := 113) hC dX5_rests_113 rfl ?_
                refine WP.il (pc := 115) hC dX5_rests_115 rfl ?_
                refine WP.callSI (pc := 117) hC dX5_rests_117 (k_X5_isContent _ F L wN false false false true) ml_X5_226 rfl rfl (Nat.le_of_ble_eq_true rfl) ⟨by decide, by decide⟩ ?_
                refine WP.ifeq (pc := 120) hC dX5_rests_120 160 (by decide) (fun h120 => absurd h120 (by decide)) (fun h120 => ?_)
                refine WP.il (pc := 123) hC dX5_rests_123 rfl ?_
                refine WP.il (pc := 125) hC dX5_rests_125 rfl ?_
                refine WP.il (pc := 127) hC dX5_rests_127 rfl ?_
                refine WP.il (pc := 129) hC dX5_rests_129 rfl ?_
                refine WP.callSI (pc := 131) hC dX5_rests_131 (k_X5_isContent _ F L wN false false true false) ml_X5_226 rfl rfl (Nat.le_of_ble_eq_true rfl) ⟨by decide, by decide⟩ ?_
                refine WP.ifeq (pc := 134) hC dX5_rests_134 160 (by decide) (fun h134 => ?_) (fun h134 => absurd h134 (by decide))
                refine WP.iinc (lv' := [_, _, _, _, _, _, _, _, _, _, _]) (pc := 160) hC dX5_rests_160 rfl (_ + 1) rfl rfl (by decide) rfl ?_
                refine WP.goto (pc := 163) hC dX5_rests_163 103 (by decide) ?_
                refine WP.il (pc := 103) hC dX5_rests_103 rfl ?_
                refine WP.iconst (pc := 105) hC dX5_rests_105 1 (by decide) ?_
                refine WP.icgt (pc := 106) hC dX5_rests_106 166 (by decide) (fun h106 => absurd h106 (by decide)) (fun h106 => ?_)
                refine WP.il (pc := 109) hC dX5_rests_109 rfl ?_
                refine WP.il (pc := 111) hC dX5_rests_111 rfl ?_
                refine WP.il (pc := 113) hC dX5_rests_113 rfl ?_
                refine WP.il (pc := 115) hC dX5_rests_115 rfl ?_
                refine WP.callSI (pc := 117) hC dX5_rests_117 (k_X5_isContent _ F L wN false true false true) ml_X5_226 rfl rfl (Nat.le_of_ble_eq_true rfl) ⟨by decide, by decide⟩ ?_
                refine WP.ifeq (pc := 120) hC dX5_rests_120 160 (by decide) (fun h120 => absurd h120 (by decide)) (fun h120 => ?_)
                refine WP.il (pc := 123) hC dX5_rests_123 rfl ?_
                refine WP.il (pc := 125) hC dX5_rests_125 rfl ?_
                refine WP.il (pc := 127) hC dX5_rests_127 rfl ?_
                refine WP.il (pc := 129) hC dX5_rests_129 rfl ?_
                refine WP.callSI (pc := 131) hC dX5_rests_131 (k_X5_isContent _ F L wN true false true false) ml_X5_226 rfl rfl (Nat.le_of_ble_eq_true rfl) ⟨by decide, by decide⟩ ?_
                refine WP.ifeq (pc := 134) hC dX5_rests_134 160 (by decide) (fun h134 => absurd h134 (by decide)) (fun h134 => ?_)
                refine WP.il (pc := 137) hC dX5_rests_137 rfl ?_
                refine WP.ifne (pc := 139) hC dX5_rests_139 153 (by decide) (fun h139 => absurd h139 (by decide)) (fun h139 => ?_)
                refine WP.bipush (pc := 142) hC dX5_rests_142 10 (by decide) ?_
                refine WP.il (pc := 144) hC dX5_rests_144 rfl ?_
                refine WP.imul (pc := 146) hC dX5_rests_146 ?_
                refine WP.il (pc := 147) hC dX5_rests_147 rfl ?_
                refine WP.iadd (pc := 149) hC dX5_rests_149 ?_
                refine WP.goto (pc := 150) hC dX5_rests_150 155 (by decide) ?_
                refine WP.is (lv' := [_, _, _, _, _, _, _, _, _, _, _]) (pc := 155) hC dX5_rests_155 rfl (by decide) rfl ?_
                refine WP.iinc (lv' := [_, _, _, _, _, _, _, _, _, _, _]) (pc := 157) hC dX5_rests_157 rfl (_ + 1) rfl rfl (by decide) rfl ?_
                refine WP.iinc (lv' := [_, _, _, _, _, _, _, _, _, _, _]) (pc := 160) hC dX5_rests_160 rfl (_ + 1) rfl rfl (by decide) rfl ?_
                refine WP.goto (pc := 163) hC dX5_rests_163 103 (by decide) ?_
                refine WP.il (pc := 103) hC dX5_rests_103 rfl ?_
                refine WP.iconst (pc := 105) hC dX5_rests_105 1 (by decide) ?_
                refine WP.icgt (pc := 106) hC dX5_rests_106 166 (by decide) (fun h106 => ?_) (fun h106 => absurd h106 (by decide))
                refine WP.iinc (lv' := [_, _, _, _, _, _, _, _, _, _, _]) (pc := 166) hC dX5_rests_166 rfl (_ + 1) rfl rfl (by decide) rfl ?_
                refine WP.goto (pc := 169) hC dX5_rests_169 94 (by decide) ?_
                refine WP.il (pc := 94) hC dX5_rests_94 rfl ?_
                refine WP.iconst (pc := 96) hC dX5_rests_96 1 (by decide) ?_
                refine WP.icgt (pc := 97) hC dX5_rests_97 172 (by decide) (fun h97 => absurd h97 (by decide)) (fun h97 => ?_)
                refine WP.iconst (pc := 100) hC dX5_rests_100 0 (by decide) ?_
                refine WP.is (lv' := [_, _, _, _, _, _, _, _, _, _, _]) (pc := 101) hC dX5_rests_101 rfl (by decide) rfl ?_
                refine WP.il (pc := 103) hC dX5_rests_103 rfl ?_
                refine WP.iconst (pc := 105) hC dX5_rests_105 1 (by decide) ?_
                refine WP.icgt (pc := 106) hC dX5_rests_106 166 (by decide) (fun h106 => absurd h106 (by decide)) (fun h106 => ?_)
                refine WP.il (pc := 109) hC dX5_rests_109 rfl ?_
                refine WP.il (pc := 111) hC dX5_rests_111 rfl ?_
                refine WP.il (pc := 113) hC dX5_rests_113 rfl ?_
                refine WP.il (pc := 115) hC dX5_rests_115 rfl ?_
                refine WP.callSI (pc := 117) hC dX5_rests_117 (k_X5_isContent _ F L wN true false false true) ml_X5_226 rfl rfl (Nat.le_of_ble_eq_true rfl) ⟨by decide, by decide⟩ ?_
                refine WP.ifeq (pc := 120) hC dX5_rests_120 160 (by decide) (fun h120 => ?_) (fun h120 => absurd h120 (by decide))
                refine WP.iinc (lv' := [_, _, _, _, _, _, _, _, _, _, _]) (pc := 160) hC dX5_rests_160 rfl (_ + 1) rfl rfl (by decide) rfl ?_
                refine WP.goto (pc := 163) hC dX5_rests_163 103 (by decide) ?_
                refine WP.il (pc := 103) hC dX5_rests_103 rfl ?_
                refine WP.iconst (pc := 105) hC dX5_rests_105 1 (by decide) ?_
                refine WP.icgt (pc := 106) hC dX5_rests_106 166 (by decide) (fun h106 => absurd h106 (by decide)) (fun h106 => ?_)
                refine WP.il (pc := 109) hC dX5_rests_109 rfl ?_
                refine WP.il (pc := 111) hC dX5_rests_111 rfl ?_
                refine WP.il (pc := 113) hC dX5_rests_113 rfl ?_
                refine WP.il (pc := 115) hC dX5_rests_115 rfl ?_
                refine WP.callSI (pc := 117) hC dX5_rests_117 (k_X5_isContent _ F L wN true true false true) ml_X5_226 rfl rfl (Nat.le_of_ble_eq_true rfl) ⟨by decide, by decide⟩ ?_
                refine WP.ifeq (pc := 120) hC dX5_rests_120 160 (by decide) (fun h120 => ?_) (fun h120 => absurd h120 (by decide))
                refine WP.iinc (lv' := [_, _, _, _, _, _, _, _, _, _, _]) (pc := 160) hC dX5_rests_160 rfl (_ + 1) rfl rfl (by decide) rfl ?_
                refine WP.goto (pc := 163) hC dX5_rests_163 103 (by decide) ?_
                refine WP.il (pc := 103) hC dX5_rests_103 rfl ?_
                refine WP.iconst (pc := 105) hC dX5_rests_105 1 (by decide) ?_
                refine WP.icgt (pc := 106) hC dX5_rests_106 166 (by decide) (fun h106 => ?_) (fun h106 => absurd h106 (by decide))
                refine WP.iinc (lv' := [_, _, _, _, _, _, _, _, _, _, _]) (pc := 166) hC dX5_rests_166 rfl (_ + 1) rfl rfl (by decide) rfl ?_
                refine WP.goto (pc := 169) hC dX5_rests_169 94 (by decide) ?_
                refine WP.il (pc := 94) hC dX5_rests_94 rfl ?_
                refine WP.iconst (pc := 96) hC dX5_rests_96 1 (by decide) ?_
                refine WP.icgt (pc := 97) hC dX5_rests_97 172 (by decide) (fun h97 => ?_) (fun h97 => absurd h97 (by decide))
                refine WP.il (pc := 172) hC dX5_rests_172 rfl ?_
                refine WP.ifne (pc := 174) hC dX5_rests_174 182 (by decide) (fun h174 => ?_) (fun h174 => ?_)
                · refine WP.il (pc := 182) hC dX5_rests_182 rfl ?_
                  refine WP.iret (pc := 184) hC rfl dX5_rests_184 ?_ ?_ ?_
                  all_goals (first | rfl | (rw [if_pos h174]; decide) | (rw [if_neg h174]; decide))
                · refine WP.il (pc := 177) hC dX5_rests_177 rfl ?_
                  refine WP.goto (pc := 179) hC dX5_rests_179 184 (by decide) ?_
                  refine WP.iret (pc := 184) hC rfl dX5_rests_184 ?_ ?_ ?_
                  all_goals (first | rfl | (rw [if_pos h174]; decide) | (rw [if_neg h174]; decide))
              · refine WP.iconst (pc := 84) hC dX5_rests_84 0 (by decide) ?_
                refine WP.is (lv' := [_, _, _, _, _, _, _, _, _, _, _]) (pc := 85) hC dX5_rests_85 rfl (by decide) rfl ?_
                refine WP.bipush (pc := 87) hC dX5_rests_87 (-9) (by decide) ?_
                refine WP.is (lv' := [_, _, _, _, _, _, _, _, _, _, _]) (pc := 89) hC dX5_rests_89 rfl (by decide) rfl ?_
                refine WP.iconst (pc := 91) hC dX5_rests_91 0 (by decide) ?_
                refine WP.is (lv' := [_, _, _, _, _, _, _, _, _, _, _]) (pc := 92) hC dX5_rests_92 rfl (by decide) rfl ?_
                refine WP.il (pc := 94) hC dX5_rests_94 rfl ?_
                refine WP.iconst (pc := 96) hC dX5_rests_96 1 (by decide) ?_
                refine WP.icgt (pc := 97) hC dX5_rests_97 172 (by decide) (fun h97 => absurd h97 (by decide)) (fun h97 => ?_)
                refine WP.iconst (pc := 100) hC dX5_rests_100 0 (by decide) ?_
                refine WP.is (lv' := [_, _, _, _, _, _, _, _, _, _, _]) (pc := 101) hC dX5_rests_101 rfl (by decide) rfl ?_
                refine WP.il (pc := 103) hC dX5_rests_103 rfl ?_
                refine WP.iconst (pc := 105) hC dX5_rests_105 1 (by decide) ?_
                refine WP.icgt (pc := 106) hC dX5_rests_106 166 (by decide) (fun h106 => absurd h106 (by decide)) (fun h106 => ?_)
                refine WP.il (pc := 109) hC dX5_rests_109 rfl ?_
                refine WP.il (pc := 111) hC dX5_rests_111 rfl ?_
                refine WP.il (pc := 113) hC dX5_rests_113 rfl ?_
                refine WP.il (pc := 115) hC dX5_rests_115 rfl ?_
                refine WP.callSI (pc := 117) hC dX5_rests_117 (k_X5_isContent _ F L wN false false true false) ml_X5_226 rfl rfl (Nat.le_of_ble_eq_true rfl) ⟨by decide, by decide⟩ ?_
                refine WP.ifeq (pc := 120) hC dX5_rests_120 160 (by decide) (fun h120 => ?_) (fun h120 => absurd h120 (by decide))
                refine WP.iinc (lv' := [_, _, _, _, _, _, _, _, _, _, _]) (pc := 160) hC dX5_rests_160 rfl (_ + 1) rfl rfl (by decide) rfl ?_
                refine WP.goto (pc := 163) hC dX5_rests_163 103 (by decide) ?_
                refine WP.il (pc := 103) hC dX5_rests_103 rfl ?_
                refine WP.iconst (pc := 105) hC dX5_rests_105 1 (by decide) ?_
                refine WP.icgt (pc := 106) hC dX5_rests_106 166 (by decide) (fun h106 => absurd h106 (by decide)) (fun h106 => ?_)
                refine WP.il (pc := 109) hC dX5_rests_109 rfl ?_
                refine WP.il (pc := 111) hC dX5_rests_111 rfl ?_
                refine WP.il (pc := 113) hC dX5_rests_113 rfl ?_
                refine WP.il (pc := 115) hC dX5_rests_115 rfl ?_
                refine WP.callSI (pc := 117) hC dX5_rests_117 (k_X5_isContent _ F L wN false true true false) ml_X5_226 rfl rfl (Nat.le_of_ble_eq_true rfl) ⟨by decide, by decide⟩ ?_
                refine WP.ifeq (pc := 120) hC dX5_rests_120 160 (by decide) (fun h120 => ?_) (fun h120 => absurd h120 (by decide))
                refine WP.iinc (lv' := [_, _, _, _, _, _, _, _, _, _, _]) (pc := 160) hC dX5_rests_160 rfl (_ + 1) rfl rfl (by decide) rfl ?_
                refine WP.goto (pc := 163) hC dX5_rests_163 103 (by decide) ?_
                refine WP.il (pc := 103) hC dX5_rests_103 rfl ?_
                refine WP.iconst (pc := 105) hC dX5_rests_105 1 (by decide) ?_
                refine WP.icgt (pc := 106) hC dX5_rests_106 166 (by decide) (fun h106 => ?_) (fun h106 => absurd h106 (by decide))
                refine WP.iinc (lv' := [_, _, _, _, _, _, _, _, _, _, _]) (pc := 166) hC dX5_rests_166 rfl (_ + 1) rfl rfl (by decide) rfl ?_
                refine WP.goto (pc := 169) hC dX5_rests_169 94 (by decide) ?_
                refine WP.il (pc := 94) hC dX5_rests_94 rfl ?_
                refine WP.iconst (pc := 96) hC dX5_rests_96 1 (by decide) ?_
                refine WP.icgt (pc := 97) hC dX5_rests_97 172 (by decide) (fun h97 => absurd h97 (by decide)) (fun h97 => ?_)
                refine WP.iconst (pc := 100) hC dX5_rests_100 0 (by decide) ?_
                refine WP.is (lv' := [_, _, _, _, _, _, _, _, _, _, _]) (pc := 101) hC dX5_rests_101 rfl (by decide) rfl ?_
                refine WP.il (pc := 103) hC dX5_rests_103 rfl ?_
                refine WP.iconst (pc := 105) hC dX5_rests_105 1 (by decide) ?_
                refine WP.icgt (pc := 106) hC dX5_rests_106 166 (by decide) (fun h106 => absurd h106 (by decide)) (fun h106 => ?_)
                refine WP.il (pc := 109) hC dX5_rests_109 rfl ?_
                refine WP.il (pc := 111) hC dX5_rests_111 rfl ?_
                refine WP.il (pc := 113) hC dX5_rests_113 rfl ?_
                refine WP.il (pc := 115) hC dX5_rests_115 rfl ?_
                refine WP.callSI (pc := 117) hC dX5_rests_117 (k_X5_isContent _ F L wN true false true false) ml_X5_226 rfl rfl (Nat.le_of_ble_eq_true rfl) ⟨by decide, by decide⟩ ?_
                refine WP.ifeq (pc := 120) hC dX5_rests_120 160 (by decide) (fun h120 => absurd h120 (by decide)) (fun h120 => ?_)
                refine WP.il (pc := 123) hC dX5_rests_123 rfl ?_
                refine WP.il (pc := 125) hC dX5_rests_125 rfl ?_
                refine WP.il (pc := 127) hC dX5_rests_127 rfl ?_
                refine WP.il (pc := 129) hC dX5_rests_129 rfl ?_
                refine WP.callSI (pc := 131) hC dX5_rests_131 (k_X5_isContent _ F L wN false true false true) ml_X5_226 rfl rfl (Nat.le_of_ble_eq_true rfl) ⟨by decide, by decide⟩ ?_
                refine WP.ifeq (pc := 134) hC dX5_rests_134 160 (by decide) (fun h134 => absurd h134 (by decide)) (fun h134 => ?_)
                refine WP.il (pc := 137) hC dX5_rests_137 rfl ?_
                refine WP.ifne (pc := 139) hC dX5_rests_139 153 (by decide) (fun h139 => absurd h139 (by decide)) (fun h139 => ?_)
                refine WP.bipush (pc := 142) hC dX5_rests_142 10 (by decide) ?_
                refine WP.il (pc := 144) hC dX5_rests_144 rfl ?_
                refine WP.imul (pc := 146) hC dX5_rests_146 ?_
                refine WP.il (pc := 147) hC dX5_rests_147 rfl ?_
                refine WP.iadd (pc := 149) hC dX5_rests_149 ?_
                refine WP.goto (pc := 150) hC dX5_rests_150 155 (by decide) ?_
                refine WP.is (lv' := [_, _, _, _, _, _, _, _, _, _, _]) (pc := 155) hC dX5_rests_155 rfl (by decide) rfl ?_
                refine WP.iinc (lv' := [_, _, _, _, _, _, _, _, _, _, _]) (pc := 157) hC dX5_rests_157 rfl (_ + 1) rfl rfl (by decide) rfl ?_
                refine WP.iinc (lv' := [_, _, _, _, _, _, _, _, _, _, _]) (pc := 160) hC dX5_rests_160 rfl (_ + 1) rfl rfl (by decide) rfl ?_
                refine WP.goto (pc := 163) hC dX5_rests_163 103 (by decide) ?_
                refine WP.il (pc := 103) hC dX5_rests_103 rfl ?_
                refine WP.iconst (pc := 105) hC dX5_rests_105 1 (by decide) ?_
                refine WP.icgt (pc := 106) hC dX5_rests_106 166 (by decide) (fun h106 => absurd h106 (by decide)) (fun h106 => ?_)
                refine WP.il (pc := 109) hC dX5_rests_109 rfl ?_
                refine WP.il (pc := 111) hC dX5_rests_111 rfl ?_
                refine WP.il (pc := 113) hC dX5_rests_113 rfl ?_
                refine WP.il (pc := 115) hC dX5_rests_115 rfl ?_
                refine WP.callSI (pc := 117) hC dX5_rests_117 (k_X5_isContent _ F L wN true true true false) ml_X5_226 rfl rfl (Nat.le_of_ble_eq_true rfl) ⟨by decide, by decide⟩ ?_
                refine WP.ifeq (pc := 120) hC dX5_rests_120 160 (by decide) (fun h120 => absurd h120 (by decide)) (fun h120 => ?_)
                refine WP.il (pc := 123) hC dX5_rests_123 rfl ?_
                refine WP.il (pc := 125) hC dX5_rests_125 rfl ?_
                refine WP.il (pc := 127) hC dX5_rests_127 rfl ?_
                refine WP.il (pc := 129) hC dX5_rests_129 rfl ?_
                refine WP.callSI (pc := 131) hC dX5_rests_131 (k_X5_isContent _ F L wN true true false true) ml_X5_226 rfl rfl (Nat.le_of_ble_eq_true rfl) ⟨by decide, by decide⟩ ?_
                refine WP.ifeq (pc := 134) hC dX5_rests_134 160 (by decide) (fun h134 => ?_) (fun h134 => absurd h134 (by decide))
                refine WP.iinc (lv' := [_, _, _, _, _, _, _, _, _, _, _]) (pc := 160) hC dX5_rests_160 rfl (_ + 1) rfl rfl (by decide) rfl ?_
                refine WP.goto (pc := 163) hC dX5_rests_163 103 (by decide) ?_
                refine WP.il (pc := 103) hC dX5_rests_103 rfl ?_
                refine WP.iconst (pc := 105) hC dX5_rests_105 1 (by decide) ?_
                refine WP.icgt (pc := 106) hC dX5_rests_106 166 (by decide) (fun h106 => ?_) (fun h106 => absurd h106 (by decide))
                refine WP.iinc (lv' := [_, _, _, _, _, _, _, _, _, _, _]) (pc := 166) hC dX5_rests_166 rfl (_ + 1) rfl rfl (by decide) rfl ?_
                refine WP.goto (pc := 169) hC dX5_rests_169 94 (by decide) ?_
                refine WP.il (pc := 94) hC dX5_rests_94 rfl ?_
                refine WP.iconst (pc := 96) hC dX5_rests_96 1 (by decide) ?_
                refine WP.icgt (pc := 97) hC dX5_rests_97 172 (by decide) (fun h97 => ?_) (fun h97 => absurd h97 (by decide))
                refine WP.il (pc := 172) hC dX5_rests_172 rfl ?_
                refine WP.ifne (pc := 174) hC dX5_rests_174 182 (by decide) (fun h174 => ?_) (fun h174 => ?_)
                · refine WP.il (pc := 182) hC dX5_rests_182 rfl ?_
                  refine WP.iret (pc := 184) hC rfl dX5_rests_184 ?_ ?_ ?_
                  all_goals (first | rfl | (rw [if_pos h174]; decide) | (rw [if_neg h174]; decide))
                · refine WP.il (pc := 177) hC dX5_rests_177 rfl ?_
                  refine WP.goto (pc := 179) hC dX5_rests_179 184 (by decide) ?_
                  refine WP.iret (pc := 184) hC rfl dX5_rests_184 ?_ ?_ ?_
                  all_goals (first | rfl | (rw [if_pos h174]; decide) | (rw [if_neg h174]; decide))
              · refine WP.iconst (pc := 84) hC dX5_rests_84 0 (by decide) ?_
                refine WP.is (lv' := [_, _, _, _, _, _, _, _, _, _, _]) (pc := 85) hC dX5_rests_85 rfl (by decide) rfl ?_
                refine WP.bipush (pc := 87) hC dX5_rests_87 (-9) (by decide) ?_
                refine WP.is (lv' := [_, _, _, _, _, _, _, _, _, _, _]) (pc := 89) hC dX5_rests_89 rfl (by decide) rfl ?_
                refine WP.iconst (pc := 91) hC dX5_rests_91 0 (by decide) ?_
                refine WP.is (lv' := [_, _, _, _, _, _, _, _, _, _, _]) (pc := 92) hC dX5_rests_92 rfl (by decide) rfl ?_
                refine WP.il (pc := 94) hC dX5_rests_94 rfl ?_
                refine WP.iconst (pc := 96) hC dX5_rests_96 1 (by decide) ?_
                refine WP.icgt (pc := 97) hC dX5_rests_97 172 (by decide) (fun h97 => absurd h97 (by decide)) (fun h97 => ?_)
                refine WP.iconst (pc := 100) hC dX5_rests_100 0 (by decide) ?_
                refine WP.is (lv' := [_, _, _, _, _, _, _, _, _, _, _]) (pc := 101) hC dX5_rests_101 rfl (by decide) rfl ?_
                refine WP.il (pc := 103) hC dX5_rests_103 rfl ?_
                refine WP.iconst (pc := 105) hC dX5_rests_105 1 (by decide) ?_
                refine WP.icgt (pc := 106) hC dX5_rests_106 166 (by decide) (fun h106 => absurd h106 (by decide)) (fun h106 => ?_)
                refine WP.il (pc := 109) hC dX5_rests_109 rfl ?_
                refine WP.il (pc := 111) hC dX5_rests_111 rfl ?_
                refine WP.il (pc := 113) hC dX5_rests_113 rfl ?_
                refine WP.il (pc := 115) hC dX5_rests_115 rfl ?_
                refine WP.callSI (pc := 117) hC dX5_rests_117 (k_X5_isContent _ F L wN false false true true) ml_X5_226 rfl rfl (Nat.le_of_ble_eq_true rfl) ⟨by decide, by decide⟩ ?_
                refine WP.ifeq (pc := 120) hC dX5_rests_120 160 (by decide) (fun h120 => ?_) (fun h120 => absurd h120 (by decide))
                refine WP.iinc (lv' := [_, _, _, _, _, _, _, _, _, _, _]) (pc := 160) hC dX5_rests_160 rfl (_ + 1) rfl rfl (by decide) rfl ?_
                refine WP.goto (pc := 163) hC dX5_rests_163 103 (by decide) ?_
                refine WP.il (pc := 103) hC dX5_rests_103 rfl ?_
                refine WP.iconst (pc := 105) hC dX5_rests_105 1 (by decide) ?_
                refine WP.icgt (pc := 106) hC dX5_rests_106 166 (by decide) (fun h106 => absurd h106 (by decide)) (fun h106 => ?_)
                refine WP.il (pc := 109) hC dX5_rests_109 rfl ?_
                refine WP.il (pc := 111) hC dX5_rests_111 rfl ?_
                refine WP.il (pc := 113) hC dX5_rests_113 rfl ?_
                refine WP.il (pc := 115) hC dX5_rests_115 rfl ?_
                refine WP.callSI (pc := 117) hC dX5_rests_117 (k_X5_isContent _ F L wN false true true true) ml_X5_226 rfl rfl (Nat.le_of_ble_eq_true rfl) ⟨by decide, by decide⟩ ?_
                refine WP.ifeq (pc := 120) hC dX5_rests_120 160 (by decide) (fun h120 => ?_) (fun h120 => absurd h120 (by decide))
                refine WP.iinc (lv' := [_, _, _, _, _, _, _, _, _, _, _]) (pc := 160) hC dX5_rests_160 rfl (_ + 1) rfl rfl (by decide) rfl ?_
                refine WP.goto (pc := 163) hC dX5_rests_163 103 (by decide) ?_
                refine WP.il (pc := 103) hC dX5_rests_103 rfl ?_
                refine WP.iconst (pc := 105) hC dX5_rests_105 1 (by decide) ?_
                refine WP.icgt (pc := 106) hC dX5_rests_106 166 (by decide) (fun h106 => ?_) (fun h106 => absurd h106 (by decide))
                refine WP.iinc (lv' := [_, _, _, _, _, _, _, _, _, _, _]) (pc := 166) hC dX5_rests_166 rfl (_ + 1) rfl rfl (by decide) rfl ?_
                refine WP.goto (pc := 169) hC dX5_rests_169 94 (by decide) ?_
                refine WP.il (pc := 94) hC dX5_rests_94 rfl ?_
                refine WP.iconst (pc := 96) hC dX5_rests_96 1 (by decide) ?_
                refine WP.icgt (pc := 97) hC dX5_rests_97 172 (by decide) (fun h97 => absurd h97 (by decide)) (fun h97 => ?_)
                refine WP.iconst (pc := 100) hC dX5_rests_100 0 (by decide) ?_
                refine WP.is (lv' := [_, _, _, _, _, _, _, _, _, _, _]) (pc := 101) hC dX5_rests_101 rfl (by decide) rfl ?_
                refine WP.il (pc := 103) hC dX5_rests_103 rfl ?_
                refine WP.iconst (pc := 105) hC dX5_rests_105 1 (by decide) ?_
                refine WP.icgt (pc := 106) hC dX5_rests_106 166 (by decide) (fun h106 => absurd h106 (by decide)) (fun h106 => ?_)
                refine WP.il (pc := 109) hC dX5_rests_109 rfl ?_
                refine WP.il (pc := 111) hC dX5_rests_111 rfl ?_
                refine WP.il (pc := 113) hC dX5_rests_113 rfl ?_
                refine WP.il (pc := 115) hC dX5_rests_115 rfl ?_
                refine WP.callSI (pc := 117) hC dX5_rests_117 (k_X5_isContent _ F L wN true false true true) ml_X5_226 rfl rfl (Nat.le_of_ble_eq_true rfl) ⟨by decide, by decide⟩ ?_
                refine WP.ifeq (pc := 120) hC dX5_rests_120 160 (by decide) (fun h120 => absurd h120 (by decide)) (fun h120 => ?_)
                refine WP.il (pc := 123) hC dX5_rests_123 rfl ?_
                refine WP.il (pc := 125) hC dX5_rests_125 rfl ?_
                refine WP.il (pc := 127) hC dX5_rests_127 rfl ?_
                refine WP.il (pc := 129) hC dX5_rests_129 rfl ?_
                refine WP.callSI (pc := 131) hC dX5_rests_131 (k_X5_isContent _ F L wN false true true true) ml_X5_226 rfl rfl (Nat.le_of_ble_eq_true rfl) ⟨by decide, by decide⟩ ?_
                refine WP.ifeq (pc := 134) hC dX5_rests_134 160 (by decide) (fun h134 => ?_) (fun h134 => absurd h134 (by decide))
                refine WP.iinc (lv' := [_, _, _, _, _, _, _, _, _, _, _]) (pc := 160) hC dX5_rests_160 rfl (_ + 1) rfl rfl (by decide) rfl ?_
                refine WP.goto (pc := 163) hC dX5_rests_163 103 (by decide) ?_
                refine WP.il (pc := 103) hC dX5_rests_103 rfl ?_
                refine WP.iconst (pc := 105) hC dX5_rests_105 1 (by decide) ?_
                refine WP.icgt (pc := 106) hC dX5_rests_106 166 (by decide) (fun h106 => absurd h106 (by decide)) (fun h106 => ?_)
                refine WP.il (pc := 109) hC dX5_rests_109 rfl ?_
                refine WP.il (pc := 111) hC dX5_rests_111 rfl ?_
                refine WP.il (pc := 113) hC dX5_rests_113 rfl ?_
                refine WP.il (pc := 115) hC dX5_rests_115 rfl ?_
                refine WP.callSI (pc := 117) hC dX5_rests_117 (k_X5_isContent _ F L wN true true true true) ml_X5_226 rfl rfl (Nat.le_of_ble_eq_true rfl) ⟨by decide, by decide⟩ ?_
                refine WP.ifeq (pc := 120) hC dX5_rests_120 160 (by decide) (fun h120 => absurd h120 (by decide)) (fun h120 => ?_)
                refine WP.il (pc := 123) hC dX5_rests_123 rfl ?_
                refine WP.il (pc := 125) hC dX5_rests_125 rfl ?_
                refine WP.il (pc := 127) hC dX5_rests_127 rfl ?_
                refine WP.il (pc := 129) hC dX5_rests_129 rfl ?_
                refine WP.callSI (pc := 131) hC dX5_rests_131 (k_X5_isContent _ F L wN true true true true) ml_X5_226 rfl rfl (Nat.le_of_ble_eq_true rfl) ⟨by decide, by decide⟩ ?_
                refine WP.ifeq (pc := 134) hC dX5_rests_134 160 (by decide) (fun h134 => absurd h134 (by decide)) (fun h134 => ?_)
                refine WP.il (pc := 137) hC dX5_rests_137 rfl ?_
                refine WP.ifne (pc := 139) hC dX5_rests_139 153 (by decide) (fun h139 => absurd h139 (by decide)) (fun h139 => ?_)
                refine WP.bipush (pc := 142) hC dX5_rests_142 10 (by decide) ?_
                refine WP.il (pc := 144) hC dX5_rests_144 rfl ?_
                refine WP.imul (pc := 146) hC dX5_rests_146 ?_
                refine WP.il (pc := 147) hC dX5_rests_147 rfl ?_
                refine WP.iadd (pc := 149) hC dX5_rests_149 ?_
                refine WP.goto (pc := 150) hC dX5_rests_150 155 (by decide) ?_
                refine WP.is (lv' := [_, _, _, _, _, _, _, _, _, _, _]) (pc := 155) hC dX5_rests_155 rfl (by decide) rfl ?_
                refine WP.iinc (lv' := [_, _, _, _, _, _, _, _, _, _, _]) (pc := 157) hC dX5_rests_157 rfl (_ + 1) rfl rfl (by decide) rfl ?_
                refine WP.iinc (lv' := [_, _, _, _, _, _, _, _, _, _, _]) (pc := 160) hC dX5_rests_160 rfl (_ + 1) rfl rfl (by decide) rfl ?_
                refine WP.goto (pc := 163) hC dX5_rests_163 103 (by decide) ?_
                refine WP.il (pc := 103) hC dX5_rests_103 rfl ?_
                refine WP.iconst (pc := 105) hC dX5_rests_105 1 (by decide) ?_
                refine WP.icgt (pc := 106) hC dX5_rests_106 166 (by decide) (fun h106 => ?_) (fun h106 => absurd h106 (by decide))
                refine WP.iinc (lv' := [_, _, _, _, _, _, _, _, _, _, _]) (pc := 166) hC dX5_rests_166 rfl (_ + 1) rfl rfl (by decide) rfl ?_
                refine WP.goto (pc := 169) hC dX5_rests_169 94 (by decide) ?_
                refine WP.il (pc := 94) hC dX5_rests_94 rfl ?_
                refine WP.iconst (pc := 96) hC dX5_rests_96 1 (by decide) ?_
                refine WP.icgt (pc := 97) hC dX5_rests_97 172 (by decide) (fun h97 => ?_) (fun h97 => absurd h97 (by decide))
                refine WP.il (pc := 172) hC dX5_rests_172 rfl ?_
                refine WP.ifne (pc := 174) hC dX5_rests_174 182 (by decide) (fun h174 => ?_) (fun h174 => ?_)
                · refine WP.il (pc := 182) hC dX5_rests_182 rfl ?_
                  refine WP.iret (pc := 184) hC rfl dX5_rests_184 ?_ ?_ ?_
                  all_goals (first | rfl | (rw [if_pos h174]; decide) | (rw [if_neg h174]; decide))
                · refine WP.il (pc := 177) hC dX5_rests_177 rfl ?_
                  refine WP.goto (pc := 179) hC dX5_rests_179 184 (by decide) ?_
                  refine WP.iret (pc := 184) hC rfl dX5_rests_184 ?_ ?_ ?_
                  all_goals (first | rfl | (rw [if_pos h174]; decide) | (rw [if_neg h174]; decide))
            refine WP.aln (pc := 44) hC dX5_rests_44 rfl ?_
            refine WP.iln (pc := 45) hC dX5_rests_45 rfl ?_
            refine WP.callVI (pc := 46) hC dX5_rests_46 (k_X5_sayingRight _ F L nr ns j hN hZ hj) ml_X5_210 rfl rfl (by decide) rfl (Nat.le_of_ble_eq_true rfl) ⟨by decide, by decide⟩ ?_
            refine WP.iln (pc := 49) hC dX5_rests_49 rfl ?_
            refine WP.ishr (pc := 50) hC dX5_rests_50 ?_
            refine WP.iconst (pc := 51) hC dX5_rests_51 1 (by decide) ?_
            refine WP.iand (pc := 52) hC dX5_rests_52 ?_
            refine WP.iconst (pc := 53) hC dX5_rests_53 1 (by decide) ?_
            refine WP.icne (pc := 54) hC dX5_rests_54 61 (by decide) (fun h54 => ?_) (fun h54 => ?_)
            · rw [tb_eq _ hlt i (by omega), Bool.not_eq_true] at h54
              refine WP.iconst (pc := 61) hC dX5_rests_61 0 (by decide) ?_
              refine WP.is (lv' := [_, _, _, _, _, _, _, _, _, _, _]) (pc := 62) hC dX5_rests_62 rfl (by decide) rfl ?_
              refine WP.aln (pc := 64) hC dX5_rests_64 rfl ?_
              refine WP.iln (pc := 65) hC dX5_rests_65 rfl ?_
              refine WP.callVI (pc := 66) hC dX5_rests_66 (k_X5_sayingRight _ F L nr ns j hN hZ hj) ml_X5_210 rfl rfl (by decide) rfl (Nat.le_of_ble_eq_true rfl) ⟨by decide, by decide⟩ ?_
              refine WP.iln (pc := 69) hC dX5_rests_69 rfl ?_
              refine WP.ishr (pc := 70) hC dX5_rests_70 ?_
              refine WP.iconst (pc := 71) hC dX5_rests_71 1 (by decide) ?_
              refine WP.iand (pc := 72) hC dX5_rests_72 ?_
              refine WP.iconst (pc := 73) hC dX5_rests_73 1 (by decide) ?_
              refine WP.icne (pc := 74) hC dX5_rests_74 81 (by decide) (fun h74 => ?_) (fun h74 => ?_)
              · rw [tb_eq _ hlt k (by omega), Bool.not_eq_true] at h74
                refine WP.iconst (pc := 81) hC dX5_rests_81 0 (by decide) ?_
                refine WP.is (lv' := [_, _, _, _, _, _, _, _, _, _, _]) (pc := 82) hC dX5_rests_82 rfl (by decide) rfl ?_
                rw [h54, h74]
                first | exact tail true true | exact tail true false | exact tail false true | exact tail false false
              · rw [tb_eq _ hlt k (by omega)] at h74
                refine WP.iconst (pc := 77) hC dX5_rests_77 1 (by decide) ?_
                refine WP.goto (pc := 78) hC dX5_rests_78 82 (by decide) ?_
                refine WP.is (lv' := [_, _, _, _, _, _, _, _, _, _, _]) (pc := 82) hC dX5_rests_82 rfl (by decide) rfl ?_
                rw [h54, h74]
                first | exact tail true true | exact tail true false | exact tail false true | exact tail false false
            · rw [tb_eq _ hlt i (by omega)] at h54
              refine WP.iconst (pc := 57) hC dX5_rests_57 1 (by decide) ?_
              refine WP.goto (pc := 58) hC dX5_rests_58 62 (by decide) ?_
              refine WP.is (lv' := [_, _, _, _, _, _, _, _, _, _, _]) (pc := 62) hC dX5_rests_62 rfl (by decide) rfl ?_
              refine WP.aln (pc := 64) hC dX5_rests_64 rfl ?_
              refine WP.iln (pc := 65) hC dX5_rests_65 rfl ?_
              refine WP.callVI (pc := 66) hC dX5_rests_66 (k_X5_sayingRight _ F L nr ns j hN hZ hj) ml_X5_210 rfl rfl (by decide) rfl (Nat.le_of_ble_eq_true rfl) ⟨by decide, by decide⟩ ?_
              refine WP.iln (pc := 69) hC dX5_rests_69 rfl ?_
              refine WP.ishr (pc := 70) hC dX5_rests_70 ?_
              refine WP.iconst (pc := 71) hC dX5_rests_71 1 (by decide) ?_
              refine WP.iand (pc := 72) hC dX5_rests_72 ?_
              refine WP.iconst (pc := 73) hC dX5_rests_73 1 (by decide) ?_
              refine WP.icne (pc := 74) hC dX5_rests_74 81 (by decide) (fun h74 => ?_) (fun h74 => ?_)
              · rw [tb_eq _ hlt k (by omega), Bool.not_eq_true] at h74
                refine WP.iconst (pc := 81) hC dX5_rests_81 0 (by decide) ?_
                refine WP.is (lv' := [_, _, _, _, _, _, _, _, _, _, _]) (pc := 82) hC dX5_rests_82 rfl (by decide) rfl ?_
                rw [h54, h74]
                first | exact tail true true | exact tail true false | exact tail false true | exact tail false false
              · rw [tb_eq _ hlt k (by omega)] at h74
                refine WP.iconst (pc := 77) hC dX5_rests_77 1 (by decide) ?_
                refine WP.goto (pc := 78) hC dX5_rests_78 82 (by decide) ?_
                refine WP.is (lv' := [_, _, _, _, _, _, _, _, _, _, _]) (pc := 82) hC dX5_rests_82 rfl (by decide) rfl ?_
                rw [h54, h74]
                first | exact tail true true | exact tail true false | exact tail false true | exact tail false false
          · refine WP.bipush (pc := 41) hC dX5_rests_41 (-2) (by decide) ?_
            refine WP.iret (pc := 43) hC rfl dX5_rests_43 ?_ ?_ ?_
            all_goals (first | rfl | (unfold rtR; rw [if_pos hc9]; refine (if_neg ?_).symm; rintro ⟨q1, q2, q3⟩; first | exact q1 h27 | exact i_nlt.mpr q2 h32 | exact h38 q3))
    · refine WP.iconst (pc := 23) hC dX5_rests_23 (-1) (by decide) ?_
      refine WP.iret (pc := 24) hC rfl dX5_rests_24 ?_ ?_ ?_
      all_goals (first | rfl | (unfold rtR; refine (if_neg ?_).symm; unfold chk; first | (rw [b2_0] at h9; rw [h9, Bool.false_and]; decide) | (rw [b2_0] at h20; rw [h20, Bool.and_false]; decide)))
/-- the tenths in which a reader says yes -/
def tnN (F : FF) (j x i : Nat) : Nat := if sayN F j i = true then 10 else if saysB (F 6 i) (F 5 i) (sees (F 6 i) (F 4 i) (lits (tru (F 19 3)) (F 7 j)) (rdg (F 19 2) i) (tru (F 19 4)) + 1) = true then x else 0
def stW (w : Nat → Nat) (t k : Nat) : Nat := w k * (10 - t) + (if k = 0 then 0 else w (k - 1) * t)
def dpN (t : Nat → Nat) : Nat → Nat → Nat
  | 0, k => if k = 0 then 1 else 0
  | r + 1, k => stW (dpN t r) (t r) k
/-- the row of ways, set from below k on -/
def wyR (f : Nat → Int32) (v : Nat → Nat) (a : Nat) : Nat → Int32 := fun j => if a ≤ j ∧ j < 6 then nI (v j) else f j
theorem wyR_0 {f : Nat → Int32} {v : Nat → Nat} {a j : Nat} (h : j < a) : wyR f v a j = f j := by unfold wyR; rw [if_neg (by omega)]
theorem wyR_1 {f : Nat → Int32} {v : Nat → Nat} {a j : Nat} (h : a ≤ j) (h2 : j < 6) : wyR f v a j = nI (v j) := by unfold wyR; rw [if_pos ⟨h, h2⟩]
theorem upF_up2 {F : FF} {i k : Nat} {f : Nat → Int32} {v : Int32} : up2 (upF F i f) i k v = upF F i (upd f k v) := by
  funext a c
  unfold up2 upF
  by_cases h : a = i
  · simp [h]
  · simp [h]
theorem upF_self (F : FF) (i : Nat) : upF F i (F i) = F := by
  funext a
  unfold upF
  by_cases h : a = i
  · rw [if_pos h, h]
  · rw [if_neg h]
theorem wyR_up {f : Nat → Int32} {v : Nat → Nat} {a : Nat} (h : a < 6) : upd (wyR f v (a + 1)) a (nI (v a)) = wyR f v a := by
  funext j
  unfold upd wyR
  by_cases e : j = a
  · rw [if_pos e, e, if_pos ⟨Nat.le_refl _, h⟩]
  · rw [if_neg e]
    by_cases q : a ≤ j ∧ j < 6
    · rw [if_pos q, if_pos (by omega)]
    · rw [if_neg q, if_neg (by omega)]
theorem wyR_6 (f : Nat → Int32) (v : Nat → Nat) : wyR f v 6 = f := by
  funext j
  unfold wyR
  rw [if_neg (by omega)]

set_option maxHeartbeats 4000000 in
theorem k_X5_tenthsOfYes (l : Launch) (F : FF) (L : Int64) (nr ns i j x : Nat) (hN : NR F nr ns) (hZ : BZ F) (hi : i < nr) (hj : j < ns) : CI l yX5_tenthsOfYes cX5_tenthsOfYes 5 (some .int) (rmx 4 93) wN [.ref 0, .int (nI i), .int (nI j), .int (nI x)] F L (nI (tnN F j x i)) F L := by
  refine mkI [some (.ref 0), some (.int (nI i)), some (.int (nI j)), some (.int (nI x)), none] 1 (by decide) rfl (Nat.le_of_ble_eq_true rfl) ?_
  intro x d hx hC
  subst hx
  have hC : Cx x cX5_tenthsOfYes 5 RX5 (some .int) (rmx 4 93) wN d := hC
  refine WP.aln (pc := 0) hC dX5_tenthsOfYes_0 rfl ?_
  refine WP.gf (pc := 1) hC dX5_tenthsOfYes_1 fl_X5_26 (by decide) rfl rfl ?_
  refine WP.aln (pc := 4) hC dX5_tenthsOfYes_4 rfl ?_
  refine WP.gf (pc := 5) hC dX5_tenthsOfYes_5 fl_X5_19 (by decide) rfl rfl ?_
  refine WP.iln (pc := 8) hC dX5_tenthsOfYes_8 rfl ?_
  refine WP.iln (pc := 9) hC dX5_tenthsOfYes_9 rfl ?_
  refine WP.callVI (pc := 10) hC dX5_tenthsOfYes_10 (k_X1_seenBy _ F L 19 nr ns i j _ _ (hZ.bb (by decide) (by decide)) hN hi hj) ml_X5_127 rfl rfl (by decide) rfl (Nat.le_of_ble_eq_true rfl) ⟨by decide, by decide⟩ ?_
  refine WP.is (lv' := [_, _, _, _, _]) (pc := 13) hC dX5_tenthsOfYes_13 rfl (by decide) rfl ?_
  refine WP.aln (pc := 15) hC dX5_tenthsOfYes_15 rfl ?_
  refine WP.gf (pc := 16) hC dX5_tenthsOfYes_16 fl_X5_19 (by decide) rfl rfl ?_
  refine WP.iln (pc := 19) hC dX5_tenthsOfYes_19 rfl ?_
  refine WP.il (pc := 20) hC dX5_tenthsOfYes_20 rfl ?_
  refine WP.callVI (pc := 22) hC dX5_tenthsOfYes_22 (k_X3_saysYes _ F L nr ns i _ hN hi) ml_X5_260 rfl rfl (by decide) rfl (Nat.le_of_ble_eq_true rfl) ⟨by decide, by decide⟩ ?_
  refine WP.ifeq (pc := 25) hC dX5_tenthsOfYes_25 31 (by decide) (fun h25 => ?_) (fun h25 => ?_)
  · rw [b2_0] at h25
    refine WP.aln (pc := 31) hC dX5_tenthsOfYes_31 rfl ?_
    refine WP.gf (pc := 32) hC dX5_tenthsOfYes_32 fl_X5_19 (by decide) rfl rfl ?_
    refine WP.iln (pc := 35) hC dX5_tenthsOfYes_35 rfl ?_
    refine WP.il (pc := 36) hC dX5_tenthsOfYes_36 rfl ?_
    refine WP.iconst (pc := 38) hC dX5_tenthsOfYes_38 1 (by decide) ?_
    refine WP.iadd (pc := 39) hC dX5_tenthsOfYes_39 ?_
    refine WP.callVI (pc := 40) hC dX5_tenthsOfYes_40 (k_X3_saysYes _ F L nr ns i _ hN hi) ml_X5_260 rfl rfl (by decide) rfl (Nat.le_of_ble_eq_true rfl) ⟨by decide, by decide⟩ ?_
    refine WP.ifeq (pc := 43) hC dX5_tenthsOfYes_43 50 (by decide) (fun h43 => ?_) (fun h43 => ?_)
    · rw [b2_0] at h43
      refine WP.iconst (pc := 50) hC dX5_tenthsOfYes_50 0 (by decide) ?_
      refine WP.iret (pc := 51) hC rfl dX5_tenthsOfYes_51 ?_ ?_ ?_
      all_goals (first | rfl | (unfold tnN; rw [if_pos (show sayN F j i = true from h25)]; rfl) | (unfold tnN; rw [if_neg (by rw [show sayN F j i = false from h25]; decide), if_pos h43]) | (unfold tnN; rw [if_neg (by rw [show sayN F j i = false from h25]; decide), if_neg (by rw [h43]; decide)]; rfl))
    · rw [b2_n0] at h43
      refine WP.iln (pc := 46) hC dX5_tenthsOfYes_46 rfl ?_
      refine WP.goto (pc := 47) hC dX5_tenthsOfYes_47 51 (by decide) ?_
      refine WP.iret (pc := 51) hC rfl dX5_tenthsOfYes_51 ?_ ?_ ?_
      all_goals (first | rfl | (unfold tnN; rw [if_pos (show sayN F j i = true from h25)]; rfl) | (unfold tnN; rw [if_neg (by rw [show sayN F j i = false from h25]; decide), if_pos h43]) | (unfold tnN; rw [if_neg (by rw [show sayN F j i = false from h25]; decide), if_neg (by rw [h43]; decide)]; rfl))
  · rw [b2_n0] at h25
    refine WP.bipush (pc := 28) hC dX5_tenthsOfYes_28 10 (by decide) ?_
    refine WP.iret (pc := 30) hC rfl dX5_tenthsOfYes_30 ?_ ?_ ?_
    all_goals (first | rfl | (unfold tnN; rw [if_pos (show sayN F j i = true from h25)]; rfl) | (unfold tnN; rw [if_neg (by rw [show sayN F j i = false from h25]; decide), if_pos h43]) | (unfold tnN; rw [if_neg (by rw [show sayN F j i = false from h25]; decide), if_neg (by rw [h43]; decide)]; rfl))
set_option maxHeartbeats 4000000 in
theorem k_X5_addToWays (l : Launch) (F : FF) (L : Int64) (t : Nat) (w : Nat → Nat) (ht : t ≤ 10) (hw : ∀ k, k < 6 → F 18 k = nI (w k)) : CV l yX5_addToWays cX5_addToWays 3 none (rmx 0 0) wN [.ref 0, .int (nI t)] F L (upF F 18 (wyR (F 18) (stW w t) 0)) L := by
  refine mkV [some (.ref 0), some (.int (nI t)), none] 1 (by decide) rfl (Nat.le_of_ble_eq_true rfl) ?_
  intro x d hx hC
  subst hx
  have hC : Cx x cX5_addToWays 3 RX5 none (rmx 0 0) wN d := hC
  have loop : ∀ k, k ≤ 5 → WP x 3 wN d (QV x wN d (upF F 18 (wyR (F 18) (stW w t) 0)) L) 8 [some (.ref 0), some (.int (nI t)), some (.int (nI k))] [] (upF F 18 (wyR (F 18) (stW w t) (k + 1))) L := by
    intro k
    induction k using Nat.strongRecOn with
    | ind k ih =>
    intro hk5
    refine WP.iln (pc := 8) hC dX5_addToWays_8 rfl ?_
    refine WP.ifle (pc := 9) hC dX5_addToWays_9 46 (by decide) (fun h9 => ?_) (fun h9 => ?_)
    · have hk1 : k = 0 := by
        rcases Nat.eq_zero_or_pos k with z | z
        · exact z
        · exact absurd h9 (nI_nle z (by omega))
      subst hk1
      refine WP.aln (pc := 46) hC dX5_addToWays_46 rfl ?_
      refine WP.gf (pc := 47) hC dX5_addToWays_47 fl_X5_59 (by decide) rfl rfl ?_
      refine WP.iconst (pc := 50) hC dX5_addToWays_50 0 (by decide) ?_
      refine WP.aln (pc := 51) hC dX5_addToWays_51 rfl ?_
      refine WP.gf (pc := 52) hC dX5_addToWays_52 fl_X5_59 (by decide) rfl rfl ?_
      refine WP.iconst (pc := 55) hC dX5_addToWays_55 0 (by decide) ?_
      refine WP.ial (pc := 56) hC dX5_addToWays_56 0 rfl (by decide) (by decide) rfl (by decide) ?_
      rw [show upF F 18 (wyR (F 18) (stW w t) (0 + 1)) 18 = wyR (F 18) (stW w t) (0 + 1) from by simp [upF], wyR_0 (by decide), hw 0 (by decide)]
      refine WP.bipush (pc := 57) hC dX5_addToWays_57 10 (by decide) ?_
      refine WP.iln (pc := 59) hC dX5_addToWays_59 rfl ?_
      refine WP.isub (pc := 60) hC dX5_addToWays_60 ?_
      rw [show (10 : Int32) - nI t = nI (10 - t) from pk_sub (a := 10) ht]
      refine WP.imul (pc := 61) hC dX5_addToWays_61 ?_
      rw [pk_mul, show w 0 * (10 - t) = stW w t 0 by unfold stW; rw [if_pos rfl, Nat.add_zero]]
      refine WP.ias (pc := 62) hC dX5_addToWays_62 0 rfl (by decide) (by decide) rfl rfl (by decide) ?_
      rw [upF_up2, wyR_up (by decide)]
      refine WP.vret (pc := 63) hC rfl dX5_addToWays_63 ?_ ?_
      all_goals (rfl)
    · have hk1 : 1 ≤ k := by
        rcases Nat.eq_zero_or_pos k with z | z
        · exact absurd (by rw [z]; decide) h9
        · exact z
      refine WP.aln (pc := 12) hC dX5_addToWays_12 rfl ?_
      refine WP.gf (pc := 13) hC dX5_addToWays_13 fl_X5_59 (by decide) rfl rfl ?_
      refine WP.iln (pc := 16) hC dX5_addToWays_16 rfl ?_
      refine WP.aln (pc := 17) hC dX5_addToWays_17 rfl ?_
      refine WP.gf (pc := 18) hC dX5_addToWays_18 fl_X5_59 (by decide) rfl rfl ?_
      refine WP.iln (pc := 21) hC dX5_addToWays_21 rfl ?_
      refine WP.ial (pc := 22) hC dX5_addToWays_22 k rfl (by omega) (by decide) rfl (by decide) ?_
      rw [show upF F 18 (wyR (F 18) (stW w t) (k + 1)) 18 = wyR (F 18) (stW w t) (k + 1) from by simp [upF], wyR_0 (Nat.lt_succ_self k), hw k (by omega)]
      refine WP.bipush (pc := 23) hC dX5_addToWays_23 10 (by decide) ?_
      refine WP.iln (pc := 25) hC dX5_addToWays_25 rfl ?_
      refine WP.isub (pc := 26) hC dX5_addToWays_26 ?_
      rw [show (10 : Int32) - nI t = nI (10 - t) from pk_sub (a := 10) ht]
      refine WP.imul (pc := 27) hC dX5_addToWays_27 ?_
      refine WP.aln (pc := 28) hC dX5_addToWays_28 rfl ?_
      refine WP.gf (pc := 29) hC dX5_addToWays_29 fl_X5_59 (by decide) rfl rfl ?_
      refine WP.iln (pc := 32) hC dX5_addToWays_32 rfl ?_
      refine WP.iconst (pc := 33) hC dX5_addToWays_33 1 (by decide) ?_
      refine WP.isub (pc := 34) hC dX5_addToWays_34 ?_
      rw [show nI k - 1 = nI (k - 1) from pk_sub (b := 1) (by omega)]
      refine WP.ial (pc := 35) hC dX5_addToWays_35 (k - 1) rfl (by omega) (by decide) rfl (by decide) ?_
      rw [show upF F 18 (wyR (F 18) (stW w t) (k + 1)) 18 = wyR (F 18) (stW w t) (k + 1) from by simp [upF], wyR_0 (show k - 1 < k + 1 by omega), hw (k - 1) (by omega)]
      refine WP.iln (pc := 36) hC dX5_addToWays_36 rfl ?_
      refine WP.imul (pc := 37) hC dX5_addToWays_37 ?_
      refine WP.iadd (pc := 38) hC dX5_addToWays_38 ?_
      rw [pk_mul, pk_mul, nI_add, show w k * (10 - t) + w (k - 1) * t = stW w t k by unfold stW; rw [if_neg (by omega)]]
      refine WP.ias (pc := 39) hC dX5_addToWays_39 k rfl (by omega) (by decide) rfl rfl (by decide) ?_
      rw [upF_up2, wyR_up (by omega)]
      refine WP.iinc (lv' := [_, _, _]) (pc := 40) hC dX5_addToWays_40 rfl (_ + (-1)) rfl rfl (by decide) rfl ?_
      refine WP.goto (pc := 43) hC dX5_addToWays_43 8 (by decide) ?_
      rw [show nI k + -1 = nI (k - 1) from by rw [show k = (k - 1) + 1 by omega]; exact pk_m1 (k - 1)]
      (have hz := ih (k - 1) (by omega) (by omega); rw [show k - 1 + 1 = k by omega] at hz; exact hz)
  refine WP.aln (pc := 0) hC dX5_addToWays_0 rfl ?_
  refine WP.gf (pc := 1) hC dX5_addToWays_1 fl_X5_59 (by decide) rfl rfl ?_
  refine WP.alen (pc := 4) hC dX5_addToWays_4 (by decide) rfl ?_
  refine WP.iconst (pc := 5) hC dX5_addToWays_5 1 (by decide) ?_
  refine WP.isub (pc := 6) hC dX5_addToWays_6 ?_
  rw [show nI 6 - 1 = nI 5 from rfl]
  refine WP.isn (lv' := [_, _, _]) (pc := 7) hC dX5_addToWays_7 rfl (by decide) rfl ?_
  have hz := loop 5 (by decide)
  rw [wyR_6, upF_self] at hz
  exact hz
