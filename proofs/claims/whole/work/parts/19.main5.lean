/-! ===== NewRays: cover, share, rests, flicker ===== -/
def pcN (q : Nat) : Nat := q % 2 + q / 2 % 2 + q / 4 % 2 + q / 8 % 2 + q / 16 % 2
theorem bc5x : ∀ q, q < 32 → bcI (nI q) = nI (pcN q) := by decide +kernel
theorem pcN_le (q : Nat) : pcN q ≤ 5 := by unfold pcN; omega
def setW (F : FF) (g : Nat → Int32) : Nat → FF
  | 0 => F
  | s + 1 => up2 (setW F g s) 17 s (g s)
theorem setW_row {F : FF} {g : Nat → Int32} {a : Nat} (h : a ≠ 17) : ∀ n, setW F g n a = F a
  | 0 => rfl
  | n + 1 => by rw [setW, up2_row h, setW_row h n]
theorem setW_at {F : FF} {g : Nat → Int32} : ∀ {n s : Nat}, s < n → setW F g n 17 s = g s
  | 0, s, h => by omega
  | n + 1, s, h => by
    rw [setW]
    by_cases e : s = n
    · rw [e, up2_s]
    · rw [up2_n _ _ (Or.inr e), setW_at (by omega)]
theorem NR.w {F : FF} {nr ns n : Nat} {g : Nat → Int32} (h : NR F nr ns) : NR (setW F g n) nr ns := by unfold NR; rw [setW_row (by decide)]; exact h
theorem BZ.w {F : FF} {n : Nat} {g : Nat → Int32} (h : BZ F) : BZ (setW F g n) := fun b h1 h2 => by rw [setW_row (by omega)]; exact h b h1 h2
theorem yesS_w {F : FF} {nr j n : Nat} {g : Nat → Int32} : yesS (setW F g n) nr j = yesS F nr j := by
  unfold yesS sayF
  rw [setW_row (show 19 ≠ 17 by decide), setW_row (show 7 ≠ 17 by decide), setW_row (show 6 ≠ 17 by decide), setW_row (show 5 ≠ 17 by decide), setW_row (show 4 ≠ 17 by decide)]
theorem rightS_w {F : FF} {nr j n : Nat} {g : Nat → Int32} : rightS (setW F g n) nr j = rightS F nr j := by
  unfold rightS
  rw [yesS_w, setW_row (show 7 ≠ 17 by decide)]
def saS (F : FF) (g : Nat → Nat) (q s : Nat) : Bool := !(decide (0 < F 7 s)) || !(decide (nI (g s) &&& nI q = 0))
def fitI (F : FF) (nr : Nat) : Nat → Int32
  | 0 => nI (2 ^ nr - 1)
  | s + 1 => if 0 < F 7 s then fitI F nr s else fitI F nr s &&& (nI (yesS F nr s) ^^^ (-1))
def bsN (Pq : Nat → Bool) : Nat → Int32
  | 0 => -9
  | q + 1 => if (bsN Pq q = -9 ∨ bcI (nI q) < bcI (bsN Pq q)) ∧ Pq q = true then nI q else bsN Pq q
def cvP (F : FF) (nr ns q : Nat) : Bool := decide (nI q &&& (fitI F nr ns ^^^ (-1)) = 0) && allN (saS F (yesS F nr) q) ns
def cvF (F : FF) (nr ns : Nat) : FF := setW F (fun s => nI (yesS F nr s)) ns
theorem pow5 : ∀ n, n ≤ 5 → 2 ^ n ≤ 32 ∧ 1 ≤ 2 ^ n := by decide

set_option maxHeartbeats 4000000 in
theorem k_X5_seesAllBright (l : Launch) (F : FF) (L : Int64) (nr ns q : Nat) (g : Nat → Nat) (hN : NR F nr ns) (hg : ∀ s, s < ns → F 17 s = nI (g s)) : CI l yX5_seesAllBright cX5_seesAllBright 3 (some .boolean) (rmx 2 42) wN [.ref 0, .int (nI q)] F L (b2 (allN (saS F g q) ns)) F L := by
  refine mkI [some (.ref 0), some (.int (nI q)), none] 1 (by decide) rfl (Nat.le_of_ble_eq_true rfl) ?_
  intro x d hx hC
  subst hx
  have hC : Cx x cX5_seesAllBright 3 RX5 (some .boolean) (rmx 2 42) wN d := hC
  have hs4 := hN.2.2.2
  have loop : ∀ s, s ≤ ns → allN (saS F g q) s = true → WP x 3 wN d (QI x wN d (b2 (allN (saS F g q) ns)) F L) 2 [some (.ref 0), some (.int (nI q)), some (.int (nI s))] [] F L := by
    refine loop_c (n := ns) (P := fun s => allN (saS F g q) s = true → WP x 3 wN d (QI x wN d (b2 (allN (saS F g q) ns)) F L) 2 [some (.ref 0), some (.int (nI q)), some (.int (nI s))] [] F L) ?_
    intro s hs0 ih ha
    refine WP.iln (pc := 2) hC dX5_seesAllBright_2 rfl ?_
    refine WP.aln (pc := 3) hC dX5_seesAllBright_3 rfl ?_
    refine WP.gf (pc := 4) hC dX5_seesAllBright_4 fl_X5_19 (by decide) rfl rfl ?_
    refine WP.gf (pc := 7) hC dX5_seesAllBright_7 fl_X5_85 (by decide) rfl rfl ?_
    refine WP.icge (pc := 10) hC dX5_seesAllBright_10 43 (by decide) (fun h10 => ?_) (fun h10 => ?_)
    · have hs9 : s = ns := by
        have h10 := h10
        rw [hN.2.1] at h10
        have := (nI_leI (by omega) (by omega)).mp h10
        omega
      subst hs9
      refine WP.iconst (pc := 43) hC dX5_seesAllBright_43 1 (by decide) ?_
      refine WP.zret (pc := 44) hC rfl (by first | exact Or.inl rfl | exact Or.inr rfl | exact b2_01 _) dX5_seesAllBright_44 ?_ ?_ ?_
      all_goals (first | rfl | (rw [ha]; rfl))
    · have hs : s < ns := by
        have h10 := h10
        rw [hN.2.1] at h10
        exact (nI_ltI (by omega) (by omega)).mp (i_nle.mp h10)
      have hv := ih hs
      have hg := hg s hs
      refine WP.aln (pc := 13) hC dX5_seesAllBright_13 rfl ?_
      refine WP.gf (pc := 14) hC dX5_seesAllBright_14 fl_X5_19 (by decide) rfl rfl ?_
      refine WP.iln (pc := 17) hC dX5_seesAllBright_17 rfl ?_
      refine WP.callVI (pc := 18) hC dX5_seesAllBright_18 (k_X3_isBright _ F L nr ns s hN hs) ml_X5_173 rfl rfl (by decide) rfl (Nat.le_of_ble_eq_true rfl) ⟨by decide, by decide⟩ ?_
      refine WP.ifeq (pc := 21) hC dX5_seesAllBright_21 37 (by decide) (fun h21 => ?_) (fun h21 => ?_)
      · have ho : saS F g q s = true := by
          first | (rw [b2_0, decide_eq_false_iff_not] at h21; unfold saS; simp [h21]; done) | (unfold saS; simp [h32]; done)
        refine WP.iinc (lv' := [_, _, _]) (pc := 37) hC dX5_seesAllBright_37 rfl (_ + 1) rfl rfl (by decide) rfl ?_
        refine WP.goto (pc := 40) hC dX5_seesAllBright_40 2 (by decide) ?_
        rw [nIp1]
        exact hv (by rw [allN, ha, ho]; rfl)
      · rw [b2_n0, decide_eq_true_eq] at h21
        refine WP.aln (pc := 24) hC dX5_seesAllBright_24 rfl ?_
        refine WP.gf (pc := 25) hC dX5_seesAllBright_25 fl_X5_55 (by decide) rfl rfl ?_
        refine WP.iln (pc := 28) hC dX5_seesAllBright_28 rfl ?_
        refine WP.ial (pc := 29) hC dX5_seesAllBright_29 s rfl (by omega) (by decide) rfl (by decide) ?_
        refine WP.iln (pc := 30) hC dX5_seesAllBright_30 rfl ?_
        refine WP.iand (pc := 31) hC dX5_seesAllBright_31 ?_
        rw [hg]
        refine WP.ifne (pc := 32) hC dX5_seesAllBright_32 37 (by decide) (fun h32 => ?_) (fun h32 => ?_)
        · have ho : saS F g q s = true := by
            first | (rw [b2_0, decide_eq_false_iff_not] at h21; unfold saS; simp [h21]; done) | (unfold saS; simp [h32]; done)
          refine WP.iinc (lv' := [_, _, _]) (pc := 37) hC dX5_seesAllBright_37 rfl (_ + 1) rfl rfl (by decide) rfl ?_
          refine WP.goto (pc := 40) hC dX5_seesAllBright_40 2 (by decide) ?_
          rw [nIp1]
          exact hv (by rw [allN, ha, ho]; rfl)
        · have ho : saS F g q s = false := by unfold saS; simp [h21, h32]
          refine WP.iconst (pc := 35) hC dX5_seesAllBright_35 0 (by decide) ?_
          refine WP.zret (pc := 36) hC rfl (by first | exact Or.inl rfl | exact Or.inr rfl | exact b2_01 _) dX5_seesAllBright_36 ?_ ?_ ?_
          all_goals (first | rfl | (rw [allN_f ho ns hs]; rfl))
  refine WP.iconst (pc := 0) hC dX5_seesAllBright_0 0 (by decide) ?_
  refine WP.isn (lv' := [_, _, _]) (pc := 1) hC dX5_seesAllBright_1 rfl (by decide) rfl ?_
  exact loop 0 (Nat.zero_le _) rfl
set_option maxHeartbeats 4000000 in
theorem k_X5_cover (l : Launch) (F : FF) (L : Int64) (nr ns : Nat) (hN : NR F nr ns) (hZ : BZ F) : CI l yX5_cover cX5_cover 5 (some .int) (rmx 5 117) wN [.ref 0] F L (bsN (cvP F nr ns) (2 ^ nr)) (cvF F nr ns) L := by
  refine mkI [some (.ref 0), none, none, none, none] 4 (by decide) rfl (Nat.le_of_ble_eq_true rfl) ?_
  intro x d hx hC
  subst hx
  have hC : Cx x cX5_cover 5 RX5 (some .int) (rmx 5 117) wN d := hC
  have hs4 := hN.2.2.2
  have hr5 := hN.2.2.1
  have h32 := pow5 nr hr5
  have loop2 : ∀ q, q ≤ 2 ^ nr → ∀ a4 : Option Value, WP x 5 wN d (QI x wN d (bsN (cvP F nr ns) (2 ^ nr)) (cvF F nr ns) L) 65 [some (.ref 0), some (.int (fitI F nr ns)), some (.int (bsN (cvP F nr ns) q)), some (.int (nI q)), a4] [] (cvF F nr ns) L := by
    refine loop_c (n := 2 ^ nr) (P := fun q => ∀ a4 : Option Value, WP x 5 wN d (QI x wN d (bsN (cvP F nr ns) (2 ^ nr)) (cvF F nr ns) L) 65 [some (.ref 0), some (.int (fitI F nr ns)), some (.int (bsN (cvP F nr ns) q)), some (.int (nI q)), a4] [] (cvF F nr ns) L) ?_
    intro q hq0 ih a4
    refine WP.iln (pc := 65) hC dX5_cover_65 rfl ?_
    refine WP.aln (pc := 66) hC dX5_cover_66 rfl ?_
    refine WP.gf (pc := 67) hC dX5_cover_67 fl_X5_19 (by decide) rfl rfl ?_
    refine WP.callVI (pc := 70) hC dX5_cover_70 (k_X3_allReaders _ (cvF F nr ns) L nr ns hN.w) ml_X5_170 rfl rfl (by decide) rfl (Nat.le_of_ble_eq_true rfl) ⟨by decide, by decide⟩ ?_
    refine WP.icgt (pc := 73) hC dX5_cover_73 129 (by decide) (fun h73 => ?_) (fun h73 => ?_)
    · have hq9 : q = 2 ^ nr := by
        have := (nI_ltI (by omega) (by omega)).mp h73
        omega
      subst hq9
      refine WP.iln (pc := 129) hC dX5_cover_129 rfl ?_
      refine WP.iret (pc := 130) hC rfl dX5_cover_130 ?_ ?_ ?_
      all_goals (first | rfl)
    · have hq : q < 2 ^ nr := by
        have := (nI_leI (by omega) (by omega)).mp (i_nlt.mp h73)
        omega
      have hv := ih hq
      refine WP.iln (pc := 76) hC dX5_cover_76 rfl ?_
      refine WP.bipush (pc := 77) hC dX5_cover_77 (-9) (by decide) ?_
      refine WP.iceq (pc := 79) hC dX5_cover_79 93 (by decide) (fun h79 => ?_) (fun h79 => ?_)
      · have hf : bsN (cvP F nr ns) q = -9 ∨ bcI (nI q) < bcI (bsN (cvP F nr ns) q) := by first | exact Or.inl h79 | exact Or.inr (i_nle.mp h90)
        refine WP.iconst (pc := 93) hC dX5_cover_93 1 (by decide) ?_
        refine WP.goto (pc := 94) hC dX5_cover_94 98 (by decide) ?_
        refine WP.is (lv' := [_, _, _, _, _]) (pc := 98) hC dX5_cover_98 rfl (by decide) rfl ?_
        refine WP.il (pc := 100) hC dX5_cover_100 rfl ?_
        refine WP.ifeq (pc := 102) hC dX5_cover_102 123 (by decide) (fun h102 => absurd h102 (by decide)) (fun h102 => ?_)
        refine WP.iln (pc := 105) hC dX5_cover_105 rfl ?_
        refine WP.iln (pc := 106) hC dX5_cover_106 rfl ?_
        refine WP.iconst (pc := 107) hC dX5_cover_107 (-1) (by decide) ?_
        refine WP.ixor (pc := 108) hC dX5_cover_108 ?_
        refine WP.iand (pc := 109) hC dX5_cover_109 ?_
        refine WP.ifne (pc := 110) hC dX5_cover_110 123 (by decide) (fun h110 => ?_) (fun h110 => ?_)
        · refine WP.iinc (lv' := [_, _, _, _, _]) (pc := 123) hC dX5_cover_123 rfl (_ + 1) rfl rfl (by decide) rfl ?_
          refine WP.goto (pc := 126) hC dX5_cover_126 65 (by decide) ?_
          rw [nIp1]
          rw [bsN] at hv
          first | (rw [if_pos ⟨hf, by unfold cvP; rw [h118, h110]; rfl⟩] at hv; exact hv _) | (rw [b2_0] at h118; rw [if_neg (by rintro ⟨z1, z2⟩; unfold cvP at z2; rw [h118, Bool.and_false] at z2; cases z2)] at hv; exact hv _) | (rw [if_neg (fun z => by have z2 := z.2; unfold cvP at z2; rw [Bool.and_eq_true, decide_eq_true_eq] at z2; exact h110 z2.1)] at hv; exact hv _) | (rw [if_neg (fun z => hf z.1)] at hv; exact hv _)
        · refine WP.aln (pc := 113) hC dX5_cover_113 rfl ?_
          refine WP.iln (pc := 114) hC dX5_cover_114 rfl ?_
          refine WP.callVI (pc := 115) hC dX5_cover_115 (k_X5_seesAllBright _ (cvF F nr ns) L nr ns q (yesS F nr) hN.w (fun s hs => setW_at hs)) ml_X5_181 rfl rfl (by decide) rfl (Nat.le_of_ble_eq_true rfl) ⟨by decide, by decide⟩ ?_
          rw [show allN (saS (cvF F nr ns) (yesS F nr) q) ns = allN (saS F (yesS F nr) q) ns from by unfold saS cvF; rw [setW_row (show 7 ≠ 17 by decide)]]
          refine WP.ifeq (pc := 118) hC dX5_cover_118 123 (by decide) (fun h118 => ?_) (fun h118 => ?_)
          · refine WP.iinc (lv' := [_, _, _, _, _]) (pc := 123) hC dX5_cover_123 rfl (_ + 1) rfl rfl (by decide) rfl ?_
            refine WP.goto (pc := 126) hC dX5_cover_126 65 (by decide) ?_
            rw [nIp1]
            rw [bsN] at hv
            first | (rw [if_pos ⟨hf, by unfold cvP; rw [h118, h110]; rfl⟩] at hv; exact hv _) | (rw [b2_0] at h118; rw [if_neg (by rintro ⟨z1, z2⟩; unfold cvP at z2; rw [h118, Bool.and_false] at z2; cases z2)] at hv; exact hv _) | (rw [if_neg (fun z => by have z2 := z.2; unfold cvP at z2; rw [Bool.and_eq_true, decide_eq_true_eq] at z2; exact h110 z2.1)] at hv; exact hv _) | (rw [if_neg (fun z => hf z.1)] at hv; exact hv _)
          · rw [b2_n0] at h118
            refine WP.iln (pc := 121) hC dX5_cover_121 rfl ?_
            refine WP.isn (lv' := [_, _, _, _, _]) (pc := 122) hC dX5_cover_122 rfl (by decide) rfl ?_
            refine WP.iinc (lv' := [_, _, _, _, _]) (pc := 123) hC dX5_cover_123 rfl (_ + 1) rfl rfl (by decide) rfl ?_
            refine WP.goto (pc := 126) hC dX5_cover_126 65 (by decide) ?_
            rw [nIp1]
            rw [bsN] at hv
            first | (rw [if_pos ⟨hf, by unfold cvP; rw [h118, h110]; rfl⟩] at hv; exact hv _) | (rw [b2_0] at h118; rw [if_neg (by rintro ⟨z1, z2⟩; unfold cvP at z2; rw [h118, Bool.and_false] at z2; cases z2)] at hv; exact hv _) | (rw [if_neg (fun z => by have z2 := z.2; unfold cvP at z2; rw [Bool.and_eq_true, decide_eq_true_eq] at z2; exact h110 z2.1)] at hv; exact hv _) | (rw [if_neg (fun z => hf z.1)] at hv; exact hv _)
      · refine WP.iln (pc := 82) hC dX5_cover_82 rfl ?_
        refine WP.callSI (pc := 83) hC dX5_cover_83 (k_J6_bitCount_0f7a4 _ _ L wN _) ml_X5_176 rfl rfl (Nat.le_of_ble_eq_true rfl) ⟨by decide, by decide⟩ ?_
        refine WP.iln (pc := 86) hC dX5_cover_86 rfl ?_
        refine WP.callSI (pc := 87) hC dX5_cover_87 (k_J6_bitCount_0f7a4 _ _ L wN _) ml_X5_176 rfl rfl (Nat.le_of_ble_eq_true rfl) ⟨by decide, by decide⟩ ?_
        refine WP.icge (pc := 90) hC dX5_cover_90 97 (by decide) (fun h90 => ?_) (fun h90 => ?_)
        · have hf : ¬ (bsN (cvP F nr ns) q = -9 ∨ bcI (nI q) < bcI (bsN (cvP F nr ns) q)) := by
            rintro (z | z)
            · exact h79 z
            · exact i_nlt.mpr h90 z
          refine WP.iconst (pc := 97) hC dX5_cover_97 0 (by decide) ?_
          refine WP.is (lv' := [_, _, _, _, _]) (pc := 98) hC dX5_cover_98 rfl (by decide) rfl ?_
          refine WP.il (pc := 100) hC dX5_cover_100 rfl ?_
          refine WP.ifeq (pc := 102) hC dX5_cover_102 123 (by decide) (fun h102 => ?_) (fun h102 => absurd h102 (by decide))
          refine WP.iinc (lv' := [_, _, _, _, _]) (pc := 123) hC dX5_cover_123 rfl (_ + 1) rfl rfl (by decide) rfl ?_
          refine WP.goto (pc := 126) hC dX5_cover_126 65 (by decide) ?_
          rw [nIp1]
          rw [bsN] at hv
          first | (rw [if_pos ⟨hf, by unfold cvP; rw [h118, h110]; rfl⟩] at hv; exact hv _) | (rw [b2_0] at h118; rw [if_neg (by rintro ⟨z1, z2⟩; unfold cvP at z2; rw [h118, Bool.and_false] at z2; cases z2)] at hv; exact hv _) | (rw [if_neg (fun z => by have z2 := z.2; unfold cvP at z2; rw [Bool.and_eq_true, decide_eq_true_eq] at z2; exact h110 z2.1)] at hv; exact hv _) | (rw [if_neg (fun z => hf z.1)] at hv; exact hv _)
        · have hf : bsN (cvP F nr ns) q = -9 ∨ bcI (nI q) < bcI (bsN (cvP F nr ns) q) := by first | exact Or.inl h79 | exact Or.inr (i_nle.mp h90)
          refine WP.iconst (pc := 93) hC dX5_cover_93 1 (by decide) ?_
          refine WP.goto (pc := 94) hC dX5_cover_94 98 (by decide) ?_
          refine WP.is (lv' := [_, _, _, _, _]) (pc := 98) hC dX5_cover_98 rfl (by decide) rfl ?_
          refine WP.il (pc := 100) hC dX5_cover_100 rfl ?_
          refine WP.ifeq (pc := 102) hC dX5_cover_102 123 (by decide) (fun h102 => absurd h102 (by decide)) (fun h102 => ?_)
          refine WP.iln (pc := 105) hC dX5_cover_105 rfl ?_
          refine WP.iln (pc := 106) hC dX5_cover_106 rfl ?_
          refine WP.iconst (pc := 107) hC dX5_cover_107 (-1) (by decide) ?_
          refine WP.ixor (pc := 108) hC dX5_cover_108 ?_
          refine WP.iand (pc := 109) hC dX5_cover_109 ?_
          refine WP.ifne (pc := 110) hC dX5_cover_110 123 (by decide) (fun h110 => ?_) (fun h110 => ?_)
          · refine WP.iinc (lv' := [_, _, _, _, _]) (pc := 123) hC dX5_cover_123 rfl (_ + 1) rfl rfl (by decide) rfl ?_
            refine WP.goto (pc := 126) hC dX5_cover_126 65 (by decide) ?_
            rw [nIp1]
            rw [bsN] at hv
            first | (rw [if_pos ⟨hf, by unfold cvP; rw [h118, h110]; rfl⟩] at hv; exact hv _) | (rw [b2_0] at h118; rw [if_neg (by rintro ⟨z1, z2⟩; unfold cvP at z2; rw [h118, Bool.and_false] at z2; cases z2)] at hv; exact hv _) | (rw [if_neg (fun z => by have z2 := z.2; unfold cvP at z2; rw [Bool.and_eq_true, decide_eq_true_eq] at z2; exact h110 z2.1)] at hv; exact hv _) | (rw [if_neg (fun z => hf z.1)] at hv; exact hv _)
          · refine WP.aln (pc := 113) hC dX5_cover_113 rfl ?_
            refine WP.iln (pc := 114) hC dX5_cover_114 rfl ?_
            refine WP.callVI (pc := 115) hC dX5_cover_115 (k_X5_seesAllBright _ (cvF F nr ns) L nr ns q (yesS F nr) hN.w (fun s hs => setW_at hs)) ml_X5_181 rfl rfl (by decide) rfl (Nat.le_of_ble_eq_true rfl) ⟨by decide, by decide⟩ ?_
            rw [show allN (saS (cvF F nr ns) (yesS F nr) q) ns = allN (saS F (yesS F nr) q) ns from by unfold saS cvF; rw [setW_row (show 7 ≠ 17 by decide)]]
            refine WP.ifeq (pc := 118) hC dX5_cover_118 123 (by decide) (fun h118 => ?_) (fun h118 => ?_)
            · refine WP.iinc (lv' := [_, _, _, _, _]) (pc := 123) hC dX5_cover_123 rfl (_ + 1) rfl rfl (by decide) rfl ?_
              refine WP.goto (pc := 126) hC dX5_cover_126 65 (by decide) ?_
              rw [nIp1]
              rw [bsN] at hv
              first | (rw [if_pos ⟨hf, by unfold cvP; rw [h118, h110]; rfl⟩] at hv; exact hv _) | (rw [b2_0] at h118; rw [if_neg (by rintro ⟨z1, z2⟩; unfold cvP at z2; rw [h118, Bool.and_false] at z2; cases z2)] at hv; exact hv _) | (rw [if_neg (fun z => by have z2 := z.2; unfold cvP at z2; rw [Bool.and_eq_true, decide_eq_true_eq] at z2; exact h110 z2.1)] at hv; exact hv _) | (rw [if_neg (fun z => hf z.1)] at hv; exact hv _)
            · rw [b2_n0] at h118
              refine WP.iln (pc := 121) hC dX5_cover_121 rfl ?_
              refine WP.isn (lv' := [_, _, _, _, _]) (pc := 122) hC dX5_cover_122 rfl (by decide) rfl ?_
              refine WP.iinc (lv' := [_, _, _, _, _]) (pc := 123) hC dX5_cover_123 rfl (_ + 1) rfl rfl (by decide) rfl ?_
              refine WP.goto (pc := 126) hC dX5_cover_126 65 (by decide) ?_
              rw [nIp1]
              rw [bsN] at hv
              first | (rw [if_pos ⟨hf, by unfold cvP; rw [h118, h110]; rfl⟩] at hv; exact hv _) | (rw [b2_0] at h118; rw [if_neg (by rintro ⟨z1, z2⟩; unfold cvP at z2; rw [h118, Bool.and_false] at z2; cases z2)] at hv; exact hv _) | (rw [if_neg (fun z => by have z2 := z.2; unfold cvP at z2; rw [Bool.and_eq_true, decide_eq_true_eq] at z2; exact h110 z2.1)] at hv; exact hv _) | (rw [if_neg (fun z => hf z.1)] at hv; exact hv _)
  have loop : ∀ s, s ≤ ns → WP x 5 wN d (QI x wN d (bsN (cvP F nr ns) (2 ^ nr)) (cvF F nr ns) L) 10 [some (.ref 0), some (.int (fitI F nr s)), some (.int (nI s)), none, none] [] (setW F (fun s => nI (yesS F nr s)) s) L := by
    refine loop_c (n := ns) (P := fun s => WP x 5 wN d (QI x wN d (bsN (cvP F nr ns) (2 ^ nr)) (cvF F nr ns) L) 10 [some (.ref 0), some (.int (fitI F nr s)), some (.int (nI s)), none, none] [] (setW F (fun s => nI (yesS F nr s)) s) L) ?_
    intro s hs0 ih
    refine WP.iln (pc := 10) hC dX5_cover_10 rfl ?_
    refine WP.aln (pc := 11) hC dX5_cover_11 rfl ?_
    refine WP.gf (pc := 12) hC dX5_cover_12 fl_X5_19 (by decide) rfl rfl ?_
    refine WP.gf (pc := 15) hC dX5_cover_15 fl_X5_85 (by decide) rfl rfl ?_
    refine WP.icge (pc := 18) hC dX5_cover_18 60 (by decide) (fun h18 => ?_) (fun h18 => ?_)
    · have hs9 : s = ns := by
        have h18 := h18
        rw [show setW F (fun s => nI (yesS F nr s)) s 3 5 = nI ns from hN.w.2.1] at h18
        have := (nI_leI (by omega) (by omega)).mp h18
        omega
      subst hs9
      refine WP.bipush (pc := 60) hC dX5_cover_60 (-9) (by decide) ?_
      refine WP.isn (lv' := [_, _, _, _, _]) (pc := 62) hC dX5_cover_62 rfl (by decide) rfl ?_
      refine WP.iconst (pc := 63) hC dX5_cover_63 0 (by decide) ?_
      refine WP.isn (lv' := [_, _, _, _, _]) (pc := 64) hC dX5_cover_64 rfl (by decide) rfl ?_
      exact loop2 0 (Nat.zero_le _) _
    · have hs : s < ns := by
        have h18 := h18
        rw [show setW F (fun s => nI (yesS F nr s)) s 3 5 = nI ns from hN.w.2.1] at h18
        exact (nI_ltI (by omega) (by omega)).mp (i_nle.mp h18)
      have hv := ih hs
      refine WP.aln (pc := 21) hC dX5_cover_21 rfl ?_
      refine WP.gf (pc := 22) hC dX5_cover_22 fl_X5_55 (by decide) rfl rfl ?_
      refine WP.iln (pc := 25) hC dX5_cover_25 rfl ?_
      refine WP.aln (pc := 26) hC dX5_cover_26 rfl ?_
      refine WP.iln (pc := 27) hC dX5_cover_27 rfl ?_
      refine WP.callVI (pc := 28) hC dX5_cover_28 (k_X5_sayingYes _ (setW F _ s) L nr ns s hN.w hZ.w hs) ml_X5_110 rfl rfl (by decide) rfl (Nat.le_of_ble_eq_true rfl) ⟨by decide, by decide⟩ ?_
      rw [yesS_w]
      refine WP.ias (pc := 31) hC dX5_cover_31 s rfl (by omega) (by decide) rfl rfl (by decide) ?_
      change WP _ _ _ _ _ _ _ _ (setW F (fun s => nI (yesS F nr s)) (s + 1)) _
      refine WP.aln (pc := 32) hC dX5_cover_32 rfl ?_
      refine WP.gf (pc := 33) hC dX5_cover_33 fl_X5_19 (by decide) rfl rfl ?_
      refine WP.iln (pc := 36) hC dX5_cover_36 rfl ?_
      refine WP.callVI (pc := 37) hC dX5_cover_37 (k_X3_isBright _ (setW F (fun s => nI (yesS F nr s)) (s + 1)) L nr ns s hN.w hs) ml_X5_173 rfl rfl (by decide) rfl (Nat.le_of_ble_eq_true rfl) ⟨by decide, by decide⟩ ?_
      rw [setW_row (show 7 ≠ 17 by decide)]
      refine WP.ifne (pc := 40) hC dX5_cover_40 54 (by decide) (fun h40 => ?_) (fun h40 => ?_)
      · refine WP.iinc (lv' := [_, _, _, _, _]) (pc := 54) hC dX5_cover_54 rfl (_ + 1) rfl rfl (by decide) rfl ?_
        refine WP.goto (pc := 57) hC dX5_cover_57 10 (by decide) ?_
        rw [nIp1]
        first | (rw [fitI, if_neg h40] at hv; exact hv) | (rw [b2_n0, decide_eq_true_eq] at h40; rw [fitI, if_pos h40] at hv; exact hv)
      · rw [b2_0, decide_eq_false_iff_not] at h40
        refine WP.iln (pc := 43) hC dX5_cover_43 rfl ?_
        refine WP.aln (pc := 44) hC dX5_cover_44 rfl ?_
        refine WP.gf (pc := 45) hC dX5_cover_45 fl_X5_55 (by decide) rfl rfl ?_
        refine WP.iln (pc := 48) hC dX5_cover_48 rfl ?_
        refine WP.ial (pc := 49) hC dX5_cover_49 s rfl (by omega) (by decide) rfl (by decide) ?_
        rw [setW_at (Nat.lt_succ_self s)]
        refine WP.iconst (pc := 50) hC dX5_cover_50 (-1) (by decide) ?_
        refine WP.ixor (pc := 51) hC dX5_cover_51 ?_
        refine WP.iand (pc := 52) hC dX5_cover_52 ?_
        refine WP.isn (lv' := [_, _, _, _, _]) (pc := 53) hC dX5_cover_53 rfl (by decide) rfl ?_
        refine WP.iinc (lv' := [_, _, _, _, _]) (pc := 54) hC dX5_cover_54 rfl (_ + 1) rfl rfl (by decide) rfl ?_
        refine WP.goto (pc := 57) hC dX5_cover_57 10 (by decide) ?_
        rw [nIp1]
        first | (rw [fitI, if_neg h40] at hv; exact hv) | (rw [b2_n0, decide_eq_true_eq] at h40; rw [fitI, if_pos h40] at hv; exact hv)
  refine WP.aln (pc := 0) hC dX5_cover_0 rfl ?_
  refine WP.gf (pc := 1) hC dX5_cover_1 fl_X5_19 (by decide) rfl rfl ?_
  refine WP.callVI (pc := 4) hC dX5_cover_4 (k_X3_allReaders _ F L nr ns hN) ml_X5_170 rfl rfl (by decide) rfl (Nat.le_of_ble_eq_true rfl) ⟨by decide, by decide⟩ ?_
  refine WP.isn (lv' := [_, _, _, _, _]) (pc := 7) hC dX5_cover_7 rfl (by decide) rfl ?_
  refine WP.iconst (pc := 8) hC dX5_cover_8 0 (by decide) ?_
  refine WP.isn (lv' := [_, _, _, _, _]) (pc := 9) hC dX5_cover_9 rfl (by decide) rfl ?_
  exact loop 0 (Nat.zero_le _)
