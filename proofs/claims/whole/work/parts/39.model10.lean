/-! ===== NewRaysModel: room ===== -/
theorem up2_upF {G : FF} {i j k : Nat} {f : Nat → Int32} {v : Int32} (h : i ≠ j) : up2 (upF G i f) j k v = upF (up2 G j k v) i f := by
  funext a c
  unfold up2 upF
  by_cases h1 : a = j
  · by_cases h2 : a = i
    · exact absurd (h2.symm.trans h1) h
    · simp [h1, Ne.symm h]
  · by_cases h2 : a = i
    · simp [h2, h]
    · simp [h1, h2]
theorem ovl_up0 {f g : Nat → Int32} {n : Nat} : upd (ovl f 0 g n) n (g n) = ovl f 0 g (n + 1) := by
  have h := ovl_up (f := f) (b := 0) (g := g) (n := n)
  rw [Nat.zero_add] at h
  exact h
def rmA (H : FF) : FF := up2 (up2 H 0 0 (H 0 9)) 0 1 (H 0 10)
def nowN : Nat → Int32 := fun k => if k < 7 then 0 else 1
def rmB5 (H : FF) (k : Nat) : FF := upF (rmA H) 5 (ovl (H 5) 0 nowN k)
def e1R (H : FF) (k : Nat) : Nat → Int32 := ovl (H 1) 0 (fun r => H 6 (3 * r)) k
def e2R (H : FF) (k : Nat) : Nat → Int32 := ovl (H 2) 0 (fun r => H 6 (3 * r + 1)) k
def e3R (H : FF) (k : Nat) : Nat → Int32 := ovl (H 3) 0 (fun r => H 6 (3 * r + 2)) k
def rmC (H : FF) (f1 f2 f3 : Nat → Int32) : FF := upF (upF (upF (rmB5 H 9) 1 f1) 2 f2) 3 f3
def rmD (H : FF) (nr k : Nat) : FF := upF (rmC H (e1R H nr) (e2R H nr) (e3R H nr)) 4 (ovl (H 4) 0 (H 7) k)
def rmE (H : FF) (nr ns : Nat) : FF := up2 (up2 (up2 (rmD H nr ns) 0 15 0) 14 0 0) 14 1 0
theorem rmC_1 {H : FF} {f1 f2 f3 : Nat → Int32} {k : Nat} {v : Int32} : up2 (rmC H f1 f2 f3) 1 k v = rmC H (upd f1 k v) f2 f3 := by
  unfold rmC
  rw [up2_upF (by decide), up2_upF (by decide), upF_up2]
theorem rmC_2 {H : FF} {f1 f2 f3 : Nat → Int32} {k : Nat} {v : Int32} : up2 (rmC H f1 f2 f3) 2 k v = rmC H f1 (upd f2 k v) f3 := by
  unfold rmC
  rw [up2_upF (by decide), upF_up2]
theorem rmC_3 {H : FF} {f1 f2 f3 : Nat → Int32} {k : Nat} {v : Int32} : up2 (rmC H f1 f2 f3) 3 k v = rmC H f1 f2 (upd f3 k v) := by
  unfold rmC
  rw [upF_up2]
theorem e1R_s {H : FF} {k : Nat} : upd (e1R H k) k (H 6 (3 * k)) = e1R H (k + 1) := ovl_up0 (g := fun r => H 6 (3 * r))
theorem e2R_s {H : FF} {k : Nat} : upd (e2R H k) k (H 6 (3 * k + 1)) = e2R H (k + 1) := ovl_up0 (g := fun r => H 6 (3 * r + 1))
theorem e3R_s {H : FF} {k : Nat} : upd (e3R H k) k (H 6 (3 * k + 2)) = e3R H (k + 1) := ovl_up0 (g := fun r => H 6 (3 * r + 2))
theorem rmC_row {H : FF} {f1 f2 f3 : Nat → Int32} {a : Nat} (h0 : a ≠ 0) (h5 : a ≠ 5) (h1 : a ≠ 1) (h2 : a ≠ 2) (h3 : a ≠ 3) : rmC H f1 f2 f3 a = H a := by
  unfold rmC rmB5 rmA
  rw [upF_row h3, upF_row h2, upF_row h1, upF_row h5, up2_row h0, up2_row h0]
theorem rmC_0 {H : FF} {f1 f2 f3 : Nat → Int32} : rmC H f1 f2 f3 0 = rmA H 0 := by
  unfold rmC rmB5
  rw [upF_row (by decide), upF_row (by decide), upF_row (by decide), upF_row (by decide)]
theorem rmA_0 {H : FF} : rmA H 0 0 = H 0 9 ∧ rmA H 0 1 = H 0 10 := by
  unfold rmA
  exact ⟨by rw [up2_n _ _ (Or.inr (by decide)), up2_s], by rw [up2_s]⟩
theorem rmC_id {H : FF} : rmC H (e1R H 0) (e2R H 0) (e3R H 0) = rmB5 H 9 := by
  unfold rmC e1R e2R e3R
  rw [ovl_0, ovl_0, ovl_0]
  funext a
  unfold upF
  by_cases h3 : a = 3
  · subst h3; rfl
  · by_cases h2 : a = 2
    · subst h2; rfl
    · by_cases h1 : a = 1
      · subst h1; rfl
      · simp [h1, h2, h3]
theorem rmD_0 {H : FF} {nr : Nat} : rmD H nr 0 = rmC H (e1R H nr) (e2R H nr) (e3R H nr) := by
  unfold rmD
  rw [ovl_0]
  have : H 4 = rmC H (e1R H nr) (e2R H nr) (e3R H nr) 4 := (rmC_row (by decide) (by decide) (by decide) (by decide) (by decide)).symm
  rw [this, upF_self]
theorem rt_RI {F : FF} {n : Nat} (hn : F 0 12 = nI n ∧ n ≤ 36) (h : rtR1 F n = -9) : ∃ b p q, RI (rtF1 F n) n b p q := by
  unfold rtR1 at h
  by_cases hc : ¬ n = 0 ∧ F 8 0 = 69
  · unfold rtF1
    rw [if_pos hc]
    obtain ⟨b, p, q, h1, -⟩ := RI.fin (n := n) 40 (G := up2 (rt0 F) 0 13 1) (a := 1) (r := 0) (s := 0) ⟨⟨hn.1, hn.2, rfl, by decide⟩, by decide, rfl, by decide, rfl, by decide⟩
    exact ⟨b, p, q, h1⟩
  · rw [if_neg hc] at h
    exact absurd h (by decide)

set_option maxHeartbeats 4000000 in
theorem k_X6_room (l : Launch) (F : FF) (L : Int64) (n : Nat) (hn : F 0 12 = nI n ∧ n ≤ 36) : CI l yX6_room cX6_room 2 (some .int) (rmx 3 68) wM [.ref 0] F L (if rtR1 F n = -9 then 10 * rtF1 F n 0 9 + rtF1 F n 0 10 else -3) (if rtR1 F n = -9 then rmE (rtF1 F n) (ix (rtF1 F n 0 9)) (ix (rtF1 F n 0 10)) else rtF1 F n) L := by
  refine mkI [some (.ref 0), none] 1 (by decide) rfl (Nat.le_of_ble_eq_true rfl) ?_
  intro x d hx hC
  subst hx
  have hC : Cx x cX6_room 2 RX6 (some .int) (rmx 3 68) wM d := hC
  refine WP.aln (pc := 0) hC dX6_room_0 rfl ?_
  refine WP.callVI (pc := 1) hC dX6_room_1 (k_X6_readText _ F L n hn) ml_X6_82 rfl rfl (by decide) rfl (Nat.le_of_ble_eq_true rfl) ⟨by decide, by decide⟩ ?_
  refine WP.bipush (pc := 4) hC dX6_room_4 (-9) (by decide) ?_
  refine WP.iceq (pc := 6) hC dX6_room_6 12 (by decide) (fun h6 => ?_) (fun h6 => ?_)
  · obtain ⟨b, p, q, hT, -, e9, hp5, e10, hq4⟩ := rt_RI hn h6
    rw [if_pos h6, if_pos h6]
    rw [show ix (rtF1 F n 0 9) = p by rw [e9, ix_nI (by omega)], show ix (rtF1 F n 0 10) = q by rw [e10, ix_nI (by omega)]]
    generalize rtF1 F n = H at hT e9 e10 ⊢
    have loop3 : ∀ k, k ≤ q → WP x 2 wM d (QI x wM d (10 * H 0 9 + H 0 10) (rmE H p q) L) 123 [some (.ref 0), some (.int (nI k))] [] (rmD H p k) L := by
      refine loop_c (n := q) (P := fun k => WP x 2 wM d (QI x wM d (10 * H 0 9 + H 0 10) (rmE H p q) L) 123 [some (.ref 0), some (.int (nI k))] [] (rmD H p k) L) ?_
      intro k hk0 ih
      refine WP.iln (pc := 123) hC dX6_room_123 rfl ?_
      refine WP.aln (pc := 124) hC dX6_room_124 rfl ?_
      refine WP.gf (pc := 125) hC dX6_room_125 fl_X6_89 (by decide) rfl rfl ?_
      rw [show rmD H p k 0 1 = nI q from (congrFun (upF_row (by decide)) 1).trans ((congrFun rmC_0 1).trans (rmA_0.2.trans e10))]
      refine WP.icge (pc := 128) hC dX6_room_128 149 (by decide) (fun h128 => ?_) (fun h128 => ?_)
      · have hk9 : k = q := by
          have := (nI_leI (by omega) (by omega)).mp h128
          omega
        subst hk9
        have d00 : rmD H p k 0 0 = H 0 9 := (congrFun (upF_row (by decide)) 0).trans ((congrFun rmC_0 0).trans rmA_0.1)
        have d01 : rmD H p k 0 1 = H 0 10 := (congrFun (upF_row (by decide)) 1).trans ((congrFun rmC_0 1).trans rmA_0.2)
        unfold rmE
        generalize rmD H p k = K at d00 d01 ⊢
        refine WP.aln (pc := 149) hC dX6_room_149 rfl ?_
        refine WP.iconst (pc := 150) hC dX6_room_150 0 (by decide) ?_
        refine WP.pf (pc := 151) hC dX6_room_151 fp_X6_92 rfl rfl (by decide) rfl rfl (Nat.le_of_ble_eq_true rfl) ?_
        refine WP.aln (pc := 154) hC dX6_room_154 rfl ?_
        refine WP.gf (pc := 155) hC dX6_room_155 fl_X6_49 (by decide) rfl rfl ?_
        refine WP.iconst (pc := 158) hC dX6_room_158 0 (by decide) ?_
        refine WP.iconst (pc := 159) hC dX6_room_159 0 (by decide) ?_
        refine WP.zas (pc := 160) hC dX6_room_160 0 rfl (by decide) (Or.inl rfl) (by decide) rfl rfl (by decide) ?_
        refine WP.aln (pc := 161) hC dX6_room_161 rfl ?_
        refine WP.gf (pc := 162) hC dX6_room_162 fl_X6_49 (by decide) rfl rfl ?_
        refine WP.iconst (pc := 165) hC dX6_room_165 1 (by decide) ?_
        refine WP.iconst (pc := 166) hC dX6_room_166 0 (by decide) ?_
        refine WP.zas (pc := 167) hC dX6_room_167 1 rfl (by decide) (Or.inl rfl) (by decide) rfl rfl (by decide) ?_
        refine WP.bipush (pc := 168) hC dX6_room_168 10 (by decide) ?_
        refine WP.aln (pc := 170) hC dX6_room_170 rfl ?_
        refine WP.gf (pc := 171) hC dX6_room_171 fl_X6_86 (by decide) rfl rfl ?_
        rw [show up2 (up2 (up2 K 0 15 0) 14 0 0) 14 1 0 0 0 = H 0 9 from d00]
        refine WP.imul (pc := 174) hC dX6_room_174 ?_
        refine WP.aln (pc := 175) hC dX6_room_175 rfl ?_
        refine WP.gf (pc := 176) hC dX6_room_176 fl_X6_89 (by decide) rfl rfl ?_
        rw [show up2 (up2 (up2 K 0 15 0) 14 0 0) 14 1 0 0 1 = H 0 10 from d01]
        refine WP.iadd (pc := 179) hC dX6_room_179 ?_
        refine WP.iret (pc := 180) hC rfl dX6_room_180 ?_ ?_ ?_
        all_goals (rfl)
      · have hk : k < q := (nI_ltI (by omega) (by omega)).mp (i_nle.mp h128)
        have hv := ih hk
        refine WP.aln (pc := 131) hC dX6_room_131 rfl ?_
        refine WP.gf (pc := 132) hC dX6_room_132 fl_X6_19 (by decide) rfl rfl ?_
        refine WP.iln (pc := 135) hC dX6_room_135 rfl ?_
        refine WP.aln (pc := 136) hC dX6_room_136 rfl ?_
        refine WP.gf (pc := 137) hC dX6_room_137 fl_X6_28 (by decide) rfl rfl ?_
        refine WP.iln (pc := 140) hC dX6_room_140 rfl ?_
        refine WP.ial (pc := 141) hC dX6_room_141 k rfl (by omega) (by decide) rfl (by decide) ?_
        rw [show rmD H p k 7 = H 7 from (upF_row (by decide)).trans (rmC_row (by decide) (by decide) (by decide) (by decide) (by decide))]
        refine WP.ias (pc := 142) hC dX6_room_142 k rfl (by omega) (by decide) rfl rfl (by decide) ?_
        rw [show up2 (rmD H p k) 4 k (H 7 k) = rmD H p (k + 1) from by unfold rmD; rw [upF_up2, ovl_up0]]
        refine WP.iinc (lv' := [_, _]) (pc := 143) hC dX6_room_143 rfl (_ + 1) rfl rfl (by decide) rfl ?_
        refine WP.goto (pc := 146) hC dX6_room_146 123 (by decide) ?_
        rw [nIp1]
        exact hv
    have loop2 : ∀ k, k ≤ p → WP x 2 wM d (QI x wM d (10 * H 0 9 + H 0 10) (rmE H p q) L) 61 [some (.ref 0), some (.int (nI k))] [] (rmC H (e1R H k) (e2R H k) (e3R H k)) L := by
      refine loop_c (n := p) (P := fun k => WP x 2 wM d (QI x wM d (10 * H 0 9 + H 0 10) (rmE H p q) L) 61 [some (.ref 0), some (.int (nI k))] [] (rmC H (e1R H k) (e2R H k) (e3R H k)) L) ?_
      intro k hk0 ih
      refine WP.iln (pc := 61) hC dX6_room_61 rfl ?_
      refine WP.aln (pc := 62) hC dX6_room_62 rfl ?_
      refine WP.gf (pc := 63) hC dX6_room_63 fl_X6_86 (by decide) rfl rfl ?_
      rw [show rmC H (e1R H k) (e2R H k) (e3R H k) 0 0 = nI p from (congrFun rmC_0 0).trans (rmA_0.1.trans e9)]
      refine WP.icge (pc := 66) hC dX6_room_66 121 (by decide) (fun h66 => ?_) (fun h66 => ?_)
      · have hk9 : k = p := by
          have := (nI_leI (by omega) (by omega)).mp h66
          omega
        subst hk9
        refine WP.iconst (pc := 121) hC dX6_room_121 0 (by decide) ?_
        refine WP.isn (lv' := [_, _]) (pc := 122) hC dX6_room_122 rfl (by decide) rfl ?_
        have hz := loop3 0 (Nat.zero_le _)
        rw [rmD_0] at hz
        exact hz
      · have hk : k < p := (nI_ltI (by omega) (by omega)).mp (i_nle.mp h66)
        have hv := ih hk
        refine WP.aln (pc := 69) hC dX6_room_69 rfl ?_
        refine WP.gf (pc := 70) hC dX6_room_70 fl_X6_7 (by decide) rfl rfl ?_
        refine WP.iln (pc := 73) hC dX6_room_73 rfl ?_
        refine WP.aln (pc := 74) hC dX6_room_74 rfl ?_
        refine WP.gf (pc := 75) hC dX6_room_75 fl_X6_25 (by decide) rfl rfl ?_
        refine WP.iconst (pc := 78) hC dX6_room_78 3 (by decide) ?_
        refine WP.iln (pc := 79) hC dX6_room_79 rfl ?_
        refine WP.imul (pc := 80) hC dX6_room_80 ?_
        rw [show (3 : Int32) * nI k = nI (3 * k) from pk_mul 3 k]
        refine WP.ial (pc := 81) hC dX6_room_81 (3 * k) rfl (by omega) (by decide) rfl (by decide) ?_
        rw [rmC_row (by decide) (by decide) (by decide) (by decide) (by decide)]
        refine WP.ias (pc := 82) hC dX6_room_82 k rfl (by omega) (by decide) rfl rfl (by decide) ?_
        rw [rmC_1, e1R_s]
        refine WP.aln (pc := 83) hC dX6_room_83 rfl ?_
        refine WP.gf (pc := 84) hC dX6_room_84 fl_X6_13 (by decide) rfl rfl ?_
        refine WP.iln (pc := 87) hC dX6_room_87 rfl ?_
        refine WP.aln (pc := 88) hC dX6_room_88 rfl ?_
        refine WP.gf (pc := 89) hC dX6_room_89 fl_X6_25 (by decide) rfl rfl ?_
        refine WP.iconst (pc := 92) hC dX6_room_92 3 (by decide) ?_
        refine WP.iln (pc := 93) hC dX6_room_93 rfl ?_
        refine WP.imul (pc := 94) hC dX6_room_94 ?_
        rw [show (3 : Int32) * nI k = nI (3 * k) from pk_mul 3 k]
        refine WP.iconst (pc := 95) hC dX6_room_95 1 (by decide) ?_
        refine WP.iadd (pc := 96) hC dX6_room_96 ?_
        rw [nIp1]
        refine WP.ial (pc := 97) hC dX6_room_97 (3 * k + 1) rfl (by omega) (by decide) rfl (by decide) ?_
        rw [rmC_row (by decide) (by decide) (by decide) (by decide) (by decide)]
        refine WP.ias (pc := 98) hC dX6_room_98 k rfl (by omega) (by decide) rfl rfl (by decide) ?_
        rw [rmC_2, e2R_s]
        refine WP.aln (pc := 99) hC dX6_room_99 rfl ?_
        refine WP.gf (pc := 100) hC dX6_room_100 fl_X6_16 (by decide) rfl rfl ?_
        refine WP.iln (pc := 103) hC dX6_room_103 rfl ?_
        refine WP.aln (pc := 104) hC dX6_room_104 rfl ?_
        refine WP.gf (pc := 105) hC dX6_room_105 fl_X6_25 (by decide) rfl rfl ?_
        refine WP.iconst (pc := 108) hC dX6_room_108 3 (by decide) ?_
        refine WP.iln (pc := 109) hC dX6_room_109 rfl ?_
        refine WP.imul (pc := 110) hC dX6_room_110 ?_
        rw [show (3 : Int32) * nI k = nI (3 * k) from pk_mul 3 k]
        refine WP.iconst (pc := 111) hC dX6_room_111 2 (by decide) ?_
        refine WP.iadd (pc := 112) hC dX6_room_112 ?_
        rw [nIp2]
        refine WP.ial (pc := 113) hC dX6_room_113 (3 * k + 2) rfl (by omega) (by decide) rfl (by decide) ?_
        rw [rmC_row (by decide) (by decide) (by decide) (by decide) (by decide)]
        refine WP.ias (pc := 114) hC dX6_room_114 k rfl (by omega) (by decide) rfl rfl (by decide) ?_
        rw [rmC_3, e3R_s]
        refine WP.iinc (lv' := [_, _]) (pc := 115) hC dX6_room_115 rfl (_ + 1) rfl rfl (by decide) rfl ?_
        refine WP.goto (pc := 118) hC dX6_room_118 61 (by decide) ?_
        rw [nIp1]
        exact hv
    have loop1 : ∀ k, k ≤ 9 → WP x 2 wM d (QI x wM d (10 * H 0 9 + H 0 10) (rmE H p q) L) 30 [some (.ref 0), some (.int (nI k))] [] (rmB5 H k) L := by
      refine loop_c (n := 9) (P := fun k => WP x 2 wM d (QI x wM d (10 * H 0 9 + H 0 10) (rmE H p q) L) 30 [some (.ref 0), some (.int (nI k))] [] (rmB5 H k) L) ?_
      intro k hk0 ih
      refine WP.iln (pc := 30) hC dX6_room_30 rfl ?_
      refine WP.bipush (pc := 31) hC dX6_room_31 9 (by decide) ?_
      refine WP.icge (pc := 33) hC dX6_room_33 59 (by decide) (fun h33 => ?_) (fun h33 => ?_)
      · have hk9 : k = 9 := by
          have := (nI_leI (a := 9) (by decide) (by omega)).mp h33
          omega
        subst hk9
        refine WP.iconst (pc := 59) hC dX6_room_59 0 (by decide) ?_
        refine WP.isn (lv' := [_, _]) (pc := 60) hC dX6_room_60 rfl (by decide) rfl ?_
        have hz := loop2 0 (Nat.zero_le _)
        rw [rmC_id] at hz
        exact hz
      · have hk : k < 9 := (nI_ltI (b := 9) (by omega) (by decide)).mp (i_nle.mp h33)
        have hv := ih hk
        refine WP.aln (pc := 36) hC dX6_room_36 rfl ?_
        refine WP.gf (pc := 37) hC dX6_room_37 fl_X6_22 (by decide) rfl rfl ?_
        refine WP.iln (pc := 40) hC dX6_room_40 rfl ?_
        refine WP.iln (pc := 41) hC dX6_room_41 rfl ?_
        refine WP.bipush (pc := 42) hC dX6_room_42 7 (by decide) ?_
        refine WP.icge (pc := 44) hC dX6_room_44 51 (by decide) (fun h44 => ?_) (fun h44 => ?_)
        · have hn7 : nowN k = 1 := by unfold nowN; rw [if_neg (fun z => nI_ge z (by decide) h44)]
          refine WP.iconst (pc := 51) hC dX6_room_51 1 (by decide) ?_
          refine WP.ias (pc := 52) hC dX6_room_52 k rfl (by omega) (by decide) rfl rfl (by decide) ?_
          rw [← hn7, show up2 (rmB5 H k) 5 k (nowN k) = rmB5 H (k + 1) from by unfold rmB5; rw [upF_up2, ovl_up0]]
          refine WP.iinc (lv' := [_, _]) (pc := 53) hC dX6_room_53 rfl (_ + 1) rfl rfl (by decide) rfl ?_
          refine WP.goto (pc := 56) hC dX6_room_56 30 (by decide) ?_
          rw [nIp1]
          exact hv
        · have hn7 : nowN k = 0 := by unfold nowN; rw [if_pos ((nI_ltI (b := 7) (by omega) (by decide)).mp (i_nle.mp h44))]
          refine WP.iconst (pc := 47) hC dX6_room_47 0 (by decide) ?_
          refine WP.goto (pc := 48) hC dX6_room_48 52 (by decide) ?_
          refine WP.ias (pc := 52) hC dX6_room_52 k rfl (by omega) (by decide) rfl rfl (by decide) ?_
          rw [← hn7, show up2 (rmB5 H k) 5 k (nowN k) = rmB5 H (k + 1) from by unfold rmB5; rw [upF_up2, ovl_up0]]
          refine WP.iinc (lv' := [_, _]) (pc := 53) hC dX6_room_53 rfl (_ + 1) rfl rfl (by decide) rfl ?_
          refine WP.goto (pc := 56) hC dX6_room_56 30 (by decide) ?_
          rw [nIp1]
          exact hv
    refine WP.aln (pc := 12) hC dX6_room_12 rfl ?_
    refine WP.aln (pc := 13) hC dX6_room_13 rfl ?_
    refine WP.gf (pc := 14) hC dX6_room_14 fl_X6_72 (by decide) rfl rfl ?_
    refine WP.pf (pc := 17) hC dX6_room_17 fp_X6_86 rfl rfl (by decide) rfl rfl (Nat.le_of_ble_eq_true rfl) ?_
    refine WP.aln (pc := 20) hC dX6_room_20 rfl ?_
    refine WP.aln (pc := 21) hC dX6_room_21 rfl ?_
    refine WP.gf (pc := 22) hC dX6_room_22 fl_X6_75 (by decide) rfl rfl ?_
    refine WP.pf (pc := 25) hC dX6_room_25 fp_X6_89 rfl rfl (by decide) rfl rfl (Nat.le_of_ble_eq_true rfl) ?_
    refine WP.iconst (pc := 28) hC dX6_room_28 0 (by decide) ?_
    refine WP.isn (lv' := [_, _]) (pc := 29) hC dX6_room_29 rfl (by decide) rfl ?_
    have hz := loop1 0 (Nat.zero_le _)
    unfold rmB5 at hz
    rw [ovl_0, show H 5 = rmA H 5 from rfl, upF_self] at hz
    exact hz
  · refine WP.bipush (pc := 9) hC dX6_room_9 (-3) (by decide) ?_
    refine WP.iret (pc := 11) hC rfl dX6_room_11 ?_ ?_ ?_
    all_goals (first | rfl | (rw [if_neg h6]))
