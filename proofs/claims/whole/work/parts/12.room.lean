/-! ===== Room ===== -/
def NR (F : FF) (nr ns : Nat) : Prop := F 3 4 = nI nr ∧ F 3 5 = nI ns ∧ nr ≤ 5 ∧ ns ≤ 4
def hasB (r : Int32) (n : Nat) : Bool := decide (0 ≤ r) && decide (r < nI n)
theorem hasB_in {i n : Nat} (h : i < n) (hn : n ≤ 5) : hasB (nI i) n = true := by
  simp only [hasB, Bool.and_eq_true, decide_eq_true_eq]
  exact ⟨nI_pos' (by omega), nI_lt h (by omega)⟩
theorem hasB_of {r : Int32} {n : Nat} (hn : n ≤ 5) (h : hasB r n = true) : ∃ i, i < n ∧ r = nI i := by
  simp only [hasB, Bool.and_eq_true, decide_eq_true_eq] at h
  exact ix2 h.1 h.2 (by omega)
def mx0 (v : Int32) : Int32 := if 0 < v then v else 0
def lits (p : Bool) (b : Int32) : Int32 := if p = true then b else 0
def sees1 (k e lit : Int32) (t : Bool) : Int32 := if t = true then lit + e + (if k = 1 ∧ 0 < e then 2 else 0) else lit
def sees (k e lit rd : Int32) (t : Bool) : Int32 := mx0 (if k = 2 then sees1 k e lit t - rd / 2 else sees1 k e lit t)
def saysB (k t v : Int32) : Bool := decide (k = 3) || decide (t ≤ v)
def addR (F : FF) (g : Nat → Int32) (n j nr : Nat) : FF := up2 (up2 (up2 (up2 F 4 nr (latN g n j - 48)) 5 nr (latN g n (j + 1) - 48)) 6 nr (latN g n (j + 2) - 48)) 3 4 (nI (nr + 1))
def addS (F : FF) (v : Int32) (ns : Nat) : FF := up2 (up2 F 7 ns v) 3 5 (nI (ns + 1))
def makeN (g : Nat → Int32) (n : Nat) : Nat → Nat → Nat → Nat → FF → FF
  | 0, _, _, _, F => F
  | f + 1, j, r, s, F => if j < n then
      (if latN g n j = 82 then (if r < 5 then makeN g n f (j + 4) (r + 1) s (addR F g n (j + 1) r) else makeN g n f (j + 4) r s F)
      else (if s < 4 then makeN g n f (j + 2) r (s + 1) (addS F (latN g n (j + 1) - 48) s) else makeN g n f (j + 2) r s F))
    else F

set_option maxHeartbeats 4000000 in
theorem k_X3_hasReader (l : Launch) (F : FF) (L : Int64) (nr ns : Nat) (r : Int32) (hN : NR F nr ns) : CI l yX3_hasReader cX3_hasReader 2 (some .boolean) (rmx 0 0) wN [.ref 3, .int r] F L (b2 (hasB r nr)) F L := by
  refine mkI [some (.ref 3), some (.int r)] 0 (by decide) rfl (Nat.le_of_ble_eq_true rfl) ?_
  intro x d hx hC
  subst hx
  have hC : Cx x cX3_hasReader 2 RX3 (some .boolean) (rmx 0 0) wN d := hC
  refine WP.iln (pc := 0) hC dX3_hasReader_0 rfl ?_
  refine WP.iflt (pc := 1) hC dX3_hasReader_1 16 (by decide) (fun h1 => ?_) (fun h1 => ?_)
  · refine WP.iconst (pc := 16) hC dX3_hasReader_16 0 (by decide) ?_
    refine WP.zret (pc := 17) hC rfl (by first | exact Or.inl rfl | exact Or.inr rfl | exact b2_01 _) dX3_hasReader_17 ?_ ?_ ?_
    all_goals (first | rfl | (unfold hasB; rw [hN.1] at h9; simp [b2, i_nlt.mp h1, i_nle.mp h9]; done) | (unfold hasB; rw [hN.1] at h9; simp [b2, i_nlt.mpr h9]; done) | (unfold hasB; simp [b2, i_nle.mpr h1]; done))
  · refine WP.iln (pc := 4) hC dX3_hasReader_4 rfl ?_
    refine WP.aln (pc := 5) hC dX3_hasReader_5 rfl ?_
    refine WP.gf (pc := 6) hC dX3_hasReader_6 fl_X3_24 (by decide) rfl rfl ?_
    refine WP.icge (pc := 9) hC dX3_hasReader_9 16 (by decide) (fun h9 => ?_) (fun h9 => ?_)
    · refine WP.iconst (pc := 16) hC dX3_hasReader_16 0 (by decide) ?_
      refine WP.zret (pc := 17) hC rfl (by first | exact Or.inl rfl | exact Or.inr rfl | exact b2_01 _) dX3_hasReader_17 ?_ ?_ ?_
      all_goals (first | rfl | (unfold hasB; rw [hN.1] at h9; simp [b2, i_nlt.mp h1, i_nle.mp h9]; done) | (unfold hasB; rw [hN.1] at h9; simp [b2, i_nlt.mpr h9]; done) | (unfold hasB; simp [b2, i_nle.mpr h1]; done))
    · refine WP.iconst (pc := 12) hC dX3_hasReader_12 1 (by decide) ?_
      refine WP.goto (pc := 13) hC dX3_hasReader_13 17 (by decide) ?_
      refine WP.zret (pc := 17) hC rfl (by first | exact Or.inl rfl | exact Or.inr rfl | exact b2_01 _) dX3_hasReader_17 ?_ ?_ ?_
      all_goals (first | rfl | (unfold hasB; rw [hN.1] at h9; simp [b2, i_nlt.mp h1, i_nle.mp h9]; done) | (unfold hasB; rw [hN.1] at h9; simp [b2, i_nlt.mpr h9]; done) | (unfold hasB; simp [b2, i_nle.mpr h1]; done))
set_option maxHeartbeats 4000000 in
theorem k_X3_hasSample (l : Launch) (F : FF) (L : Int64) (nr ns : Nat) (r : Int32) (hN : NR F nr ns) : CI l yX3_hasSample cX3_hasSample 2 (some .boolean) (rmx 0 0) wN [.ref 3, .int r] F L (b2 (hasB r ns)) F L := by
  refine mkI [some (.ref 3), some (.int r)] 0 (by decide) rfl (Nat.le_of_ble_eq_true rfl) ?_
  intro x d hx hC
  subst hx
  have hC : Cx x cX3_hasSample 2 RX3 (some .boolean) (rmx 0 0) wN d := hC
  refine WP.iln (pc := 0) hC dX3_hasSample_0 rfl ?_
  refine WP.iflt (pc := 1) hC dX3_hasSample_1 16 (by decide) (fun h1 => ?_) (fun h1 => ?_)
  · refine WP.iconst (pc := 16) hC dX3_hasSample_16 0 (by decide) ?_
    refine WP.zret (pc := 17) hC rfl (by first | exact Or.inl rfl | exact Or.inr rfl | exact b2_01 _) dX3_hasSample_17 ?_ ?_ ?_
    all_goals (first | rfl | (unfold hasB; rw [hN.2.1] at h9; simp [b2, i_nlt.mp h1, i_nle.mp h9]; done) | (unfold hasB; rw [hN.2.1] at h9; simp [b2, i_nlt.mpr h9]; done) | (unfold hasB; simp [b2, i_nle.mpr h1]; done))
  · refine WP.iln (pc := 4) hC dX3_hasSample_4 rfl ?_
    refine WP.aln (pc := 5) hC dX3_hasSample_5 rfl ?_
    refine WP.gf (pc := 6) hC dX3_hasSample_6 fl_X3_28 (by decide) rfl rfl ?_
    refine WP.icge (pc := 9) hC dX3_hasSample_9 16 (by decide) (fun h9 => ?_) (fun h9 => ?_)
    · refine WP.iconst (pc := 16) hC dX3_hasSample_16 0 (by decide) ?_
      refine WP.zret (pc := 17) hC rfl (by first | exact Or.inl rfl | exact Or.inr rfl | exact b2_01 _) dX3_hasSample_17 ?_ ?_ ?_
      all_goals (first | rfl | (unfold hasB; rw [hN.2.1] at h9; simp [b2, i_nlt.mp h1, i_nle.mp h9]; done) | (unfold hasB; rw [hN.2.1] at h9; simp [b2, i_nlt.mpr h9]; done) | (unfold hasB; simp [b2, i_nle.mpr h1]; done))
    · refine WP.iconst (pc := 12) hC dX3_hasSample_12 1 (by decide) ?_
      refine WP.goto (pc := 13) hC dX3_hasSample_13 17 (by decide) ?_
      refine WP.zret (pc := 17) hC rfl (by first | exact Or.inl rfl | exact Or.inr rfl | exact b2_01 _) dX3_hasSample_17 ?_ ?_ ?_
      all_goals (first | rfl | (unfold hasB; rw [hN.2.1] at h9; simp [b2, i_nlt.mp h1, i_nle.mp h9]; done) | (unfold hasB; rw [hN.2.1] at h9; simp [b2, i_nlt.mpr h9]; done) | (unfold hasB; simp [b2, i_nle.mpr h1]; done))
set_option maxHeartbeats 4000000 in
theorem k_X3_hasBoth (l : Launch) (F : FF) (L : Int64) (nr ns : Nat) (r s : Int32) (hN : NR F nr ns) : CI l yX3_hasBoth cX3_hasBoth 3 (some .boolean) (rmx 1 21) wN [.ref 3, .int r, .int s] F L (b2 (hasB r nr && hasB s ns)) F L := by
  refine mkI [some (.ref 3), some (.int r), some (.int s)] 0 (by decide) rfl (Nat.le_of_ble_eq_true rfl) ?_
  intro x d hx hC
  subst hx
  have hC : Cx x cX3_hasBoth 3 RX3 (some .boolean) (rmx 1 21) wN d := hC
  refine WP.aln (pc := 0) hC dX3_hasBoth_0 rfl ?_
  refine WP.iln (pc := 1) hC dX3_hasBoth_1 rfl ?_
  refine WP.callVI (pc := 2) hC dX3_hasBoth_2 (k_X3_hasReader _ F L nr ns r hN) ml_X3_51 rfl rfl (by decide) rfl (Nat.le_of_ble_eq_true rfl) ⟨by decide, by decide⟩ ?_
  refine WP.ifeq (pc := 5) hC dX3_hasBoth_5 20 (by decide) (fun h5 => ?_) (fun h5 => ?_)
  · refine WP.iconst (pc := 20) hC dX3_hasBoth_20 0 (by decide) ?_
    refine WP.zret (pc := 21) hC rfl (by first | exact Or.inl rfl | exact Or.inr rfl | exact b2_01 _) dX3_hasBoth_21 ?_ ?_ ?_
    all_goals (first | rfl | (rw [b2_n0] at h5 h13; simp [b2, h5, h13]; done) | (rw [b2_n0] at h5; rw [b2_0] at h13; simp [b2, h5, h13]; done) | (rw [b2_0] at h5; simp [b2, h5]; done))
  · refine WP.aln (pc := 8) hC dX3_hasBoth_8 rfl ?_
    refine WP.iln (pc := 9) hC dX3_hasBoth_9 rfl ?_
    refine WP.callVI (pc := 10) hC dX3_hasBoth_10 (k_X3_hasSample _ F L nr ns s hN) ml_X3_55 rfl rfl (by decide) rfl (Nat.le_of_ble_eq_true rfl) ⟨by decide, by decide⟩ ?_
    refine WP.ifeq (pc := 13) hC dX3_hasBoth_13 20 (by decide) (fun h13 => ?_) (fun h13 => ?_)
    · refine WP.iconst (pc := 20) hC dX3_hasBoth_20 0 (by decide) ?_
      refine WP.zret (pc := 21) hC rfl (by first | exact Or.inl rfl | exact Or.inr rfl | exact b2_01 _) dX3_hasBoth_21 ?_ ?_ ?_
      all_goals (first | rfl | (rw [b2_n0] at h5 h13; simp [b2, h5, h13]; done) | (rw [b2_n0] at h5; rw [b2_0] at h13; simp [b2, h5, h13]; done) | (rw [b2_0] at h5; simp [b2, h5]; done))
    · refine WP.iconst (pc := 16) hC dX3_hasBoth_16 1 (by decide) ?_
      refine WP.goto (pc := 17) hC dX3_hasBoth_17 21 (by decide) ?_
      refine WP.zret (pc := 21) hC rfl (by first | exact Or.inl rfl | exact Or.inr rfl | exact b2_01 _) dX3_hasBoth_21 ?_ ?_ ?_
      all_goals (first | rfl | (rw [b2_n0] at h5 h13; simp [b2, h5, h13]; done) | (rw [b2_n0] at h5; rw [b2_0] at h13; simp [b2, h5, h13]; done) | (rw [b2_0] at h5; simp [b2, h5]; done))
theorem sh1 : ∀ n, n ≤ 5 → (1 : Int32) <<< (nI n &&& 31) - 1 = nI (2 ^ n - 1) := by decide
set_option maxHeartbeats 4000000 in
theorem k_X3_allReaders (l : Launch) (F : FF) (L : Int64) (nr ns : Nat) (hN : NR F nr ns) : CI l yX3_allReaders cX3_allReaders 1 (some .int) (rmx 0 0) wN [.ref 3] F L (nI (2 ^ nr - 1)) F L := by
  refine mkI [some (.ref 3)] 0 (by decide) rfl (Nat.le_of_ble_eq_true rfl) ?_
  intro x d hx hC
  subst hx
  have hC : Cx x cX3_allReaders 1 RX3 (some .int) (rmx 0 0) wN d := hC
  refine WP.iconst (pc := 0) hC dX3_allReaders_0 1 (by decide) ?_
  refine WP.aln (pc := 1) hC dX3_allReaders_1 rfl ?_
  refine WP.gf (pc := 2) hC dX3_allReaders_2 fl_X3_24 (by decide) rfl rfl ?_
  refine WP.ishl (pc := 5) hC dX3_allReaders_5 ?_
  refine WP.iconst (pc := 6) hC dX3_allReaders_6 1 (by decide) ?_
  refine WP.isub (pc := 7) hC dX3_allReaders_7 ?_
  refine WP.iret (pc := 8) hC rfl dX3_allReaders_8 ?_ ?_ ?_
  all_goals (first | rfl | (rw [hN.1]; exact sh1 nr hN.2.2.1))
set_option maxHeartbeats 4000000 in
theorem k_X3_isBright (l : Launch) (F : FF) (L : Int64) (nr ns j : Nat) (hN : NR F nr ns) (hj : j < ns) : CI l yX3_isBright cX3_isBright 2 (some .boolean) (rmx 1 21) wN [.ref 3, .int (nI j)] F L (b2 (decide (0 < F 7 j))) F L := by
  refine mkI [some (.ref 3), some (.int (nI j))] 0 (by decide) rfl (Nat.le_of_ble_eq_true rfl) ?_
  intro x d hx hC
  subst hx
  have hC : Cx x cX3_isBright 2 RX3 (some .boolean) (rmx 1 21) wN d := hC
  have hb1 : b2 (hasB (nI j) ns) = 1 := by rw [hasB_in hj (by have := hN.2.2.2; omega)]; rfl
  have hs4 := hN.2.2.2
  refine WP.aln (pc := 0) hC dX3_isBright_0 rfl ?_
  refine WP.iln (pc := 1) hC dX3_isBright_1 rfl ?_
  refine WP.callVI (pc := 2) hC dX3_isBright_2 (k_X3_hasSample _ F L nr ns (nI j) hN) ml_X3_55 rfl rfl (by decide) rfl (Nat.le_of_ble_eq_true rfl) ⟨by decide, by decide⟩ ?_
  rw [hb1]
  refine WP.ifeq (pc := 5) hC dX3_isBright_5 21 (by decide) (fun h5 => absurd h5 (by decide)) (fun h5 => ?_)
  refine WP.aln (pc := 8) hC dX3_isBright_8 rfl ?_
  refine WP.gf (pc := 9) hC dX3_isBright_9 fl_X3_21 (by decide) rfl rfl ?_
  refine WP.iln (pc := 12) hC dX3_isBright_12 rfl ?_
  refine WP.ial (pc := 13) hC dX3_isBright_13 j rfl (by omega) (by decide) rfl (by decide) ?_
  refine WP.ifle (pc := 14) hC dX3_isBright_14 21 (by decide) (fun h14 => ?_) (fun h14 => ?_)
  · refine WP.iconst (pc := 21) hC dX3_isBright_21 0 (by decide) ?_
    refine WP.zret (pc := 22) hC rfl (by first | exact Or.inl rfl | exact Or.inr rfl | exact b2_01 _) dX3_isBright_22 ?_ ?_ ?_
    all_goals (first | rfl | (simp [b2, i_nle.mp h14]; done) | (simp [b2, i_nlt.mpr h14]; done))
  · refine WP.iconst (pc := 17) hC dX3_isBright_17 1 (by decide) ?_
    refine WP.goto (pc := 18) hC dX3_isBright_18 22 (by decide) ?_
    refine WP.zret (pc := 22) hC rfl (by first | exact Or.inl rfl | exact Or.inr rfl | exact b2_01 _) dX3_isBright_22 ?_ ?_ ?_
    all_goals (first | rfl | (simp [b2, i_nle.mp h14]; done) | (simp [b2, i_nlt.mpr h14]; done))
set_option maxHeartbeats 4000000 in
theorem k_X3_expectsOf (l : Launch) (F : FF) (L : Int64) (nr ns i : Nat) (hN : NR F nr ns) (hi : i < nr) : CI l yX3_expectsOf cX3_expectsOf 2 (some .int) (rmx 1 21) wN [.ref 3, .int (nI i)] F L (F 4 i) F L := by
  refine mkI [some (.ref 3), some (.int (nI i))] 0 (by decide) rfl (Nat.le_of_ble_eq_true rfl) ?_
  intro x d hx hC
  subst hx
  have hC : Cx x cX3_expectsOf 2 RX3 (some .int) (rmx 1 21) wN d := hC
  have hb0 : b2 (hasB (nI i) nr) = 1 := by rw [hasB_in hi hN.2.2.1]; rfl
  have hr5 := hN.2.2.1
  refine WP.aln (pc := 0) hC dX3_expectsOf_0 rfl ?_
  refine WP.iln (pc := 1) hC dX3_expectsOf_1 rfl ?_
  refine WP.callVI (pc := 2) hC dX3_expectsOf_2 (k_X3_hasReader _ F L nr ns (nI i) hN) ml_X3_51 rfl rfl (by decide) rfl (Nat.le_of_ble_eq_true rfl) ⟨by decide, by decide⟩ ?_
  rw [hb0]
  refine WP.ifeq (pc := 5) hC dX3_expectsOf_5 17 (by decide) (fun h5 => absurd h5 (by decide)) (fun h5 => ?_)
  refine WP.aln (pc := 8) hC dX3_expectsOf_8 rfl ?_
  refine WP.gf (pc := 9) hC dX3_expectsOf_9 fl_X3_9 (by decide) rfl rfl ?_
  refine WP.iln (pc := 12) hC dX3_expectsOf_12 rfl ?_
  refine WP.ial (pc := 13) hC dX3_expectsOf_13 i rfl (by omega) (by decide) rfl (by decide) ?_
  refine WP.goto (pc := 14) hC dX3_expectsOf_14 18 (by decide) ?_
  refine WP.iret (pc := 18) hC rfl dX3_expectsOf_18 ?_ ?_ ?_
  all_goals (rfl)
set_option maxHeartbeats 4000000 in
theorem k_X3_seen (l : Launch) (F : FF) (L : Int64) (nr ns i j : Nat) (e rd : Int32) (p t : Bool) (hN : NR F nr ns) (hi : i < nr) (hj : j < ns) : CI l yX3_seen cX3_seen 8 (some .int) (rmx 2 43) wN [.ref 3, .int (nI i), .int (nI j), .int e, .int rd, .int (b2 p), .int (b2 t)] F L (sees (F 6 i) e (lits p (F 7 j)) rd t) F L := by
  refine mkI [some (.ref 3), some (.int (nI i)), some (.int (nI j)), some (.int e), some (.int rd), some (.int (b2 p)), some (.int (b2 t)), none] 1 (by decide) rfl (Nat.le_of_ble_eq_true rfl) ?_
  intro x d hx hC
  subst hx
  have hC : Cx x cX3_seen 8 RX3 (some .int) (rmx 2 43) wN d := hC
  have hb1 : b2 (hasB (nI i) nr && hasB (nI j) ns) = 1 := by rw [hasB_in hi hN.2.2.1, hasB_in hj (by have := hN.2.2.2; omega)]; rfl
  have hs4 := hN.2.2.2
  have hr5 := hN.2.2.1
  refine WP.aln (pc := 0) hC dX3_seen_0 rfl ?_
  refine WP.iln (pc := 1) hC dX3_seen_1 rfl ?_
  refine WP.iln (pc := 2) hC dX3_seen_2 rfl ?_
  refine WP.callVI (pc := 3) hC dX3_seen_3 (k_X3_hasBoth _ F L nr ns (nI i) (nI j) hN) ml_X3_58 rfl rfl (by decide) rfl (Nat.le_of_ble_eq_true rfl) ⟨by decide, by decide⟩ ?_
  rw [hb1]
  refine WP.ifne (pc := 6) hC dX3_seen_6 11 (by decide) (fun h6 => ?_) (fun h6 => absurd h6 (by decide))
  refine WP.il (pc := 11) hC dX3_seen_11 rfl ?_
  refine WP.ifeq (pc := 13) hC dX3_seen_13 25 (by decide) (fun h13 => ?_) (fun h13 => ?_)
  · rw [b2_0] at h13
    refine WP.iconst (pc := 25) hC dX3_seen_25 0 (by decide) ?_
    refine WP.is (lv' := [_, _, _, _, _, _, _, _]) (pc := 26) hC dX3_seen_26 rfl (by decide) rfl ?_
    refine WP.il (pc := 28) hC dX3_seen_28 rfl ?_
    refine WP.ifeq (pc := 30) hC dX3_seen_30 63 (by decide) (fun h30 => ?_) (fun h30 => ?_)
    · refine WP.aln (pc := 63) hC dX3_seen_63 rfl ?_
      refine WP.gf (pc := 64) hC dX3_seen_64 fl_X3_18 (by decide) rfl rfl ?_
      refine WP.iln (pc := 67) hC dX3_seen_67 rfl ?_
      refine WP.ial (pc := 68) hC dX3_seen_68 i rfl (by omega) (by decide) rfl (by decide) ?_
      refine WP.iconst (pc := 69) hC dX3_seen_69 2 (by decide) ?_
      refine WP.icne (pc := 70) hC dX3_seen_70 82 (by decide) (fun h70 => ?_) (fun h70 => ?_)
      · refine WP.iconst (pc := 82) hC dX3_seen_82 0 (by decide) ?_
        refine WP.il (pc := 83) hC dX3_seen_83 rfl ?_
        refine WP.mmax (pc := 85) hC dX3_seen_85 ml_X3_62 ⟨by decide, Nat.le_of_ble_eq_true rfl⟩ ?_
        refine WP.iret (pc := 88) hC rfl dX3_seen_88 ?_ ?_ ?_
        all_goals (first | rfl | exact absurd (h48.symm.trans h70) (by decide) | (subst h13; subst h30; simp [sees, sees1, mx0, lits, h48, h70]; done) | (have h52 := i_nle.mp h52; subst h13; subst h30; simp [sees, sees1, mx0, lits, h48, h52, h70]; done) | (have h52 := i_nlt.mpr h52; subst h13; subst h30; simp [sees, sees1, mx0, lits, h48, h52, h70]; done) | (rw [b2_0] at h30; subst h13; subst h30; simp [sees, sees1, mx0, lits, h70]; done))
      · refine WP.il (pc := 73) hC dX3_seen_73 rfl ?_
        refine WP.il (pc := 75) hC dX3_seen_75 rfl ?_
        refine WP.iconst (pc := 77) hC dX3_seen_77 2 (by decide) ?_
        refine WP.idiv (pc := 78) hC dX3_seen_78 (by decide) ?_
        refine WP.isub (pc := 79) hC dX3_seen_79 ?_
        refine WP.is (lv' := [_, _, _, _, _, _, _, _]) (pc := 80) hC dX3_seen_80 rfl (by decide) rfl ?_
        refine WP.iconst (pc := 82) hC dX3_seen_82 0 (by decide) ?_
        refine WP.il (pc := 83) hC dX3_seen_83 rfl ?_
        refine WP.mmax (pc := 85) hC dX3_seen_85 ml_X3_62 ⟨by decide, Nat.le_of_ble_eq_true rfl⟩ ?_
        refine WP.iret (pc := 88) hC rfl dX3_seen_88 ?_ ?_ ?_
        all_goals (first | rfl | exact absurd (h48.symm.trans h70) (by decide) | (subst h13; subst h30; simp [sees, sees1, mx0, lits, h48, h70]; done) | (have h52 := i_nle.mp h52; subst h13; subst h30; simp [sees, sees1, mx0, lits, h48, h52, h70]; done) | (have h52 := i_nlt.mpr h52; subst h13; subst h30; simp [sees, sees1, mx0, lits, h48, h52, h70]; done) | (rw [b2_0] at h30; subst h13; subst h30; simp [sees, sees1, mx0, lits, h70]; done))
    · rw [b2_n0] at h30
      refine WP.il (pc := 33) hC dX3_seen_33 rfl ?_
      refine WP.iln (pc := 35) hC dX3_seen_35 rfl ?_
      refine WP.iadd (pc := 36) hC dX3_seen_36 ?_
      refine WP.is (lv' := [_, _, _, _, _, _, _, _]) (pc := 37) hC dX3_seen_37 rfl (by decide) rfl ?_
      refine WP.il (pc := 39) hC dX3_seen_39 rfl ?_
      refine WP.aln (pc := 41) hC dX3_seen_41 rfl ?_
      refine WP.gf (pc := 42) hC dX3_seen_42 fl_X3_18 (by decide) rfl rfl ?_
      refine WP.iln (pc := 45) hC dX3_seen_45 rfl ?_
      refine WP.ial (pc := 46) hC dX3_seen_46 i rfl (by omega) (by decide) rfl (by decide) ?_
      refine WP.iconst (pc := 47) hC dX3_seen_47 1 (by decide) ?_
      refine WP.icne (pc := 48) hC dX3_seen_48 59 (by decide) (fun h48 => ?_) (fun h48 => ?_)
      · refine WP.iconst (pc := 59) hC dX3_seen_59 0 (by decide) ?_
        refine WP.iadd (pc := 60) hC dX3_seen_60 ?_
        refine WP.is (lv' := [_, _, _, _, _, _, _, _]) (pc := 61) hC dX3_seen_61 rfl (by decide) rfl ?_
        refine WP.aln (pc := 63) hC dX3_seen_63 rfl ?_
        refine WP.gf (pc := 64) hC dX3_seen_64 fl_X3_18 (by decide) rfl rfl ?_
        refine WP.iln (pc := 67) hC dX3_seen_67 rfl ?_
        refine WP.ial (pc := 68) hC dX3_seen_68 i rfl (by omega) (by decide) rfl (by decide) ?_
        refine WP.iconst (pc := 69) hC dX3_seen_69 2 (by decide) ?_
        refine WP.icne (pc := 70) hC dX3_seen_70 82 (by decide) (fun h70 => ?_) (fun h70 => ?_)
        · refine WP.iconst (pc := 82) hC dX3_seen_82 0 (by decide) ?_
          refine WP.il (pc := 83) hC dX3_seen_83 rfl ?_
          refine WP.mmax (pc := 85) hC dX3_seen_85 ml_X3_62 ⟨by decide, Nat.le_of_ble_eq_true rfl⟩ ?_
          refine WP.iret (pc := 88) hC rfl dX3_seen_88 ?_ ?_ ?_
          all_goals (first | rfl | exact absurd (h48.symm.trans h70) (by decide) | (subst h13; subst h30; simp [sees, sees1, mx0, lits, h48, h70]; done) | (have h52 := i_nle.mp h52; subst h13; subst h30; simp [sees, sees1, mx0, lits, h48, h52, h70]; done) | (have h52 := i_nlt.mpr h52; subst h13; subst h30; simp [sees, sees1, mx0, lits, h48, h52, h70]; done) | (rw [b2_0] at h30; subst h13; subst h30; simp [sees, sees1, mx0, lits, h70]; done))
        · refine WP.il (pc := 73) hC dX3_seen_73 rfl ?_
          refine WP.il (pc := 75) hC dX3_seen_75 rfl ?_
          refine WP.iconst (pc := 77) hC dX3_seen_77 2 (by decide) ?_
          refine WP.idiv (pc := 78) hC dX3_seen_78 (by decide) ?_
          refine WP.isub (pc := 79) hC dX3_seen_79 ?_
          refine WP.is (lv' := [_, _, _, _, _, _, _, _]) (pc := 80) hC dX3_seen_80 rfl (by decide) rfl ?_
          refine WP.iconst (pc := 82) hC dX3_seen_82 0 (by decide) ?_
          refine WP.il (pc := 83) hC dX3_seen_83 rfl ?_
          refine WP.mmax (pc := 85) hC dX3_seen_85 ml_X3_62 ⟨by decide, Nat.le_of_ble_eq_true rfl⟩ ?_
          refine WP.iret (pc := 88) hC rfl dX3_seen_88 ?_ ?_ ?_
          all_goals (first | rfl | exact absurd (h48.symm.trans h70) (by decide) | (subst h13; subst h30; simp [sees, sees1, mx0, lits, h48, h70]; done) | (have h52 := i_nle.mp h52; subst h13; subst h30; simp [sees, sees1, mx0, lits, h48, h52, h70]; done) | (have h52 := i_nlt.mpr h52; subst h13; subst h30; simp [sees, sees1, mx0, lits, h48, h52, h70]; done) | (rw [b2_0] at h30; subst h13; subst h30; simp [sees, sees1, mx0, lits, h70]; done))
      · refine WP.iln (pc := 51) hC dX3_seen_51 rfl ?_
        refine WP.ifle (pc := 52) hC dX3_seen_52 59 (by decide) (fun h52 => ?_) (fun h52 => ?_)
        · refine WP.iconst (pc := 59) hC dX3_seen_59 0 (by decide) ?_
          refine WP.iadd (pc := 60) hC dX3_seen_60 ?_
          refine WP.is (lv' := [_, _, _, _, _, _, _, _]) (pc := 61) hC dX3_seen_61 rfl (by decide) rfl ?_
          refine WP.aln (pc := 63) hC dX3_seen_63 rfl ?_
          refine WP.gf (pc := 64) hC dX3_seen_64 fl_X3_18 (by decide) rfl rfl ?_
          refine WP.iln (pc := 67) hC dX3_seen_67 rfl ?_
          refine WP.ial (pc := 68) hC dX3_seen_68 i rfl (by omega) (by decide) rfl (by decide) ?_
          refine WP.iconst (pc := 69) hC dX3_seen_69 2 (by decide) ?_
          refine WP.icne (pc := 70) hC dX3_seen_70 82 (by decide) (fun h70 => ?_) (fun h70 => ?_)
          · refine WP.iconst (pc := 82) hC dX3_seen_82 0 (by decide) ?_
            refine WP.il (pc := 83) hC dX3_seen_83 rfl ?_
            refine WP.mmax (pc := 85) hC dX3_seen_85 ml_X3_62 ⟨by decide, Nat.le_of_ble_eq_true rfl⟩ ?_
            refine WP.iret (pc := 88) hC rfl dX3_seen_88 ?_ ?_ ?_
            all_goals (first | rfl | exact absurd (h48.symm.trans h70) (by decide) | (subst h13; subst h30; simp [sees, sees1, mx0, lits, h48, h70]; done) | (have h52 := i_nle.mp h52; subst h13; subst h30; simp [sees, sees1, mx0, lits, h48, h52, h70]; done) | (have h52 := i_nlt.mpr h52; subst h13; subst h30; simp [sees, sees1, mx0, lits, h48, h52, h70]; done) | (rw [b2_0] at h30; subst h13; subst h30; simp [sees, sees1, mx0, lits, h70]; done))
          · refine WP.il (pc := 73) hC dX3_seen_73 rfl ?_
            refine WP.il (pc := 75) hC dX3_seen_75 rfl ?_
            refine WP.iconst (pc := 77) hC dX3_seen_77 2 (by decide) ?_
            refine WP.idiv (pc := 78) hC dX3_seen_78 (by decide) ?_
            refine WP.isub (pc := 79) hC dX3_seen_79 ?_
            refine WP.is (lv' := [_, _, _, _, _, _, _, _]) (pc := 80) hC dX3_seen_80 rfl (by decide) rfl ?_
            refine WP.iconst (pc := 82) hC dX3_seen_82 0 (by decide) ?_
            refine WP.il (pc := 83) hC dX3_seen_83 rfl ?_
            refine WP.mmax (pc := 85) hC dX3_seen_85 ml_X3_62 ⟨by decide, Nat.le_of_ble_eq_true rfl⟩ ?_
            refine WP.iret (pc := 88) hC rfl dX3_seen_88 ?_ ?_ ?_
            all_goals (first | rfl | exact absurd (h48.symm.trans h70) (by decide) | (subst h13; subst h30; simp [sees, sees1, mx0, lits, h48, h70]; done) | (have h52 := i_nle.mp h52; subst h13; subst h30; simp [sees, sees1, mx0, lits, h48, h52, h70]; done) | (have h52 := i_nlt.mpr h52; subst h13; subst h30; simp [sees, sees1, mx0, lits, h48, h52, h70]; done) | (rw [b2_0] at h30; subst h13; subst h30; simp [sees, sees1, mx0, lits, h70]; done))
        · refine WP.iconst (pc := 55) hC dX3_seen_55 2 (by decide) ?_
          refine WP.goto (pc := 56) hC dX3_seen_56 60 (by decide) ?_
          refine WP.iadd (pc := 60) hC dX3_seen_60 ?_
          refine WP.is (lv' := [_, _, _, _, _, _, _, _]) (pc := 61) hC dX3_seen_61 rfl (by decide) rfl ?_
          refine WP.aln (pc := 63) hC dX3_seen_63 rfl ?_
          refine WP.gf (pc := 64) hC dX3_seen_64 fl_X3_18 (by decide) rfl rfl ?_
          refine WP.iln (pc := 67) hC dX3_seen_67 rfl ?_
          refine WP.ial (pc := 68) hC dX3_seen_68 i rfl (by omega) (by decide) rfl (by decide) ?_
          refine WP.iconst (pc := 69) hC dX3_seen_69 2 (by decide) ?_
          refine WP.icne (pc := 70) hC dX3_seen_70 82 (by decide) (fun h70 => ?_) (fun h70 => ?_)
          · refine WP.iconst (pc := 82) hC dX3_seen_82 0 (by decide) ?_
            refine WP.il (pc := 83) hC dX3_seen_83 rfl ?_
            refine WP.mmax (pc := 85) hC dX3_seen_85 ml_X3_62 ⟨by decide, Nat.le_of_ble_eq_true rfl⟩ ?_
            refine WP.iret (pc := 88) hC rfl dX3_seen_88 ?_ ?_ ?_
            all_goals (first | rfl | exact absurd (h48.symm.trans h70) (by decide) | (subst h13; subst h30; simp [sees, sees1, mx0, lits, h48, h70]; done) | (have h52 := i_nle.mp h52; subst h13; subst h30; simp [sees, sees1, mx0, lits, h48, h52, h70]; done) | (have h52 := i_nlt.mpr h52; subst h13; subst h30; simp [sees, sees1, mx0, lits, h48, h52, h70]; done) | (rw [b2_0] at h30; subst h13; subst h30; simp [sees, sees1, mx0, lits, h70]; done))
          · refine WP.il (pc := 73) hC dX3_seen_73 rfl ?_
            refine WP.il (pc := 75) hC dX3_seen_75 rfl ?_
            refine WP.iconst (pc := 77) hC dX3_seen_77 2 (by decide) ?_
            refine WP.idiv (pc := 78) hC dX3_seen_78 (by decide) ?_
            refine WP.isub (pc := 79) hC dX3_seen_79 ?_
            refine WP.is (lv' := [_, _, _, _, _, _, _, _]) (pc := 80) hC dX3_seen_80 rfl (by decide) rfl ?_
            refine WP.iconst (pc := 82) hC dX3_seen_82 0 (by decide) ?_
            refine WP.il (pc := 83) hC dX3_seen_83 rfl ?_
            refine WP.mmax (pc := 85) hC dX3_seen_85 ml_X3_62 ⟨by decide, Nat.le_of_ble_eq_true rfl⟩ ?_
            refine WP.iret (pc := 88) hC rfl dX3_seen_88 ?_ ?_ ?_
            all_goals (first | rfl | exact absurd (h48.symm.trans h70) (by decide) | (subst h13; subst h30; simp [sees, sees1, mx0, lits, h48, h70]; done) | (have h52 := i_nle.mp h52; subst h13; subst h30; simp [sees, sees1, mx0, lits, h48, h52, h70]; done) | (have h52 := i_nlt.mpr h52; subst h13; subst h30; simp [sees, sees1, mx0, lits, h48, h52, h70]; done) | (rw [b2_0] at h30; subst h13; subst h30; simp [sees, sees1, mx0, lits, h70]; done))
  · rw [b2_n0] at h13
    refine WP.aln (pc := 16) hC dX3_seen_16 rfl ?_
    refine WP.gf (pc := 17) hC dX3_seen_17 fl_X3_21 (by decide) rfl rfl ?_
    refine WP.iln (pc := 20) hC dX3_seen_20 rfl ?_
    refine WP.ial (pc := 21) hC dX3_seen_21 j rfl (by omega) (by decide) rfl (by decide) ?_
    refine WP.goto (pc := 22) hC dX3_seen_22 26 (by decide) ?_
    refine WP.is (lv' := [_, _, _, _, _, _, _, _]) (pc := 26) hC dX3_seen_26 rfl (by decide) rfl ?_
    refine WP.il (pc := 28) hC dX3_seen_28 rfl ?_
    refine WP.ifeq (pc := 30) hC dX3_seen_30 63 (by decide) (fun h30 => ?_) (fun h30 => ?_)
    · refine WP.aln (pc := 63) hC dX3_seen_63 rfl ?_
      refine WP.gf (pc := 64) hC dX3_seen_64 fl_X3_18 (by decide) rfl rfl ?_
      refine WP.iln (pc := 67) hC dX3_seen_67 rfl ?_
      refine WP.ial (pc := 68) hC dX3_seen_68 i rfl (by omega) (by decide) rfl (by decide) ?_
      refine WP.iconst (pc := 69) hC dX3_seen_69 2 (by decide) ?_
      refine WP.icne (pc := 70) hC dX3_seen_70 82 (by decide) (fun h70 => ?_) (fun h70 => ?_)
      · refine WP.iconst (pc := 82) hC dX3_seen_82 0 (by decide) ?_
        refine WP.il (pc := 83) hC dX3_seen_83 rfl ?_
        refine WP.mmax (pc := 85) hC dX3_seen_85 ml_X3_62 ⟨by decide, Nat.le_of_ble_eq_true rfl⟩ ?_
        refine WP.iret (pc := 88) hC rfl dX3_seen_88 ?_ ?_ ?_
        all_goals (first | rfl | exact absurd (h48.symm.trans h70) (by decide) | (subst h13; subst h30; simp [sees, sees1, mx0, lits, h48, h70]; done) | (have h52 := i_nle.mp h52; subst h13; subst h30; simp [sees, sees1, mx0, lits, h48, h52, h70]; done) | (have h52 := i_nlt.mpr h52; subst h13; subst h30; simp [sees, sees1, mx0, lits, h48, h52, h70]; done) | (rw [b2_0] at h30; subst h13; subst h30; simp [sees, sees1, mx0, lits, h70]; done))
      · refine WP.il (pc := 73) hC dX3_seen_73 rfl ?_
        refine WP.il (pc := 75) hC dX3_seen_75 rfl ?_
        refine WP.iconst (pc := 77) hC dX3_seen_77 2 (by decide) ?_
        refine WP.idiv (pc := 78) hC dX3_seen_78 (by decide) ?_
        refine WP.isub (pc := 79) hC dX3_seen_79 ?_
        refine WP.is (lv' := [_, _, _, _, _, _, _, _]) (pc := 80) hC dX3_seen_80 rfl (by decide) rfl ?_
        refine WP.iconst (pc := 82) hC dX3_seen_82 0 (by decide) ?_
        refine WP.il (pc := 83) hC dX3_seen_83 rfl ?_
        refine WP.mmax (pc := 85) hC dX3_seen_85 ml_X3_62 ⟨by decide, Nat.le_of_ble_eq_true rfl⟩ ?_
        refine WP.iret (pc := 88) hC rfl dX3_seen_88 ?_ ?_ ?_
        all_goals (first | rfl | exact absurd (h48.symm.trans h70) (by decide) | (subst h13; subst h30; simp [sees, sees1, mx0, lits, h48, h70]; done) | (have h52 := i_nle.mp h52; subst h13; subst h30; simp [sees, sees1, mx0, lits, h48, h52, h70]; done) | (have h52 := i_nlt.mpr h52; subst h13; subst h30; simp [sees, sees1, mx0, lits, h48, h52, h70]; done) | (rw [b2_0] at h30; subst h13; subst h30; simp [sees, sees1, mx0, lits, h70]; done))
    · rw [b2_n0] at h30
      refine WP.il (pc := 33) hC dX3_seen_33 rfl ?_
      refine WP.iln (pc := 35) hC dX3_seen_35 rfl ?_
      refine WP.iadd (pc := 36) hC dX3_seen_36 ?_
      refine WP.is (lv' := [_, _, _, _, _, _, _, _]) (pc := 37) hC dX3_seen_37 rfl (by decide) rfl ?_
      refine WP.il (pc := 39) hC dX3_seen_39 rfl ?_
      refine WP.aln (pc := 41) hC dX3_seen_41 rfl ?_
      refine WP.gf (pc := 42) hC dX3_seen_42 fl_X3_18 (by decide) rfl rfl ?_
      refine WP.iln (pc := 45) hC dX3_seen_45 rfl ?_
      refine WP.ial (pc := 46) hC dX3_seen_46 i rfl (by omega) (by decide) rfl (by decide) ?_
      refine WP.iconst (pc := 47) hC dX3_seen_47 1 (by decide) ?_
      refine WP.icne (pc := 48) hC dX3_seen_48 59 (by decide) (fun h48 => ?_) (fun h48 => ?_)
      · refine WP.iconst (pc := 59) hC dX3_seen_59 0 (by decide) ?_
        refine WP.iadd (pc := 60) hC dX3_seen_60 ?_
        refine WP.is (lv' := [_, _, _, _, _, _, _, _]) (pc := 61) hC dX3_seen_61 rfl (by decide) rfl ?_
        refine WP.aln (pc := 63) hC dX3_seen_63 rfl ?_
        refine WP.gf (pc := 64) hC dX3_seen_64 fl_X3_18 (by decide) rfl rfl ?_
        refine WP.iln (pc := 67) hC dX3_seen_67 rfl ?_
        refine WP.ial (pc := 68) hC dX3_seen_68 i rfl (by omega) (by decide) rfl (by decide) ?_
        refine WP.iconst (pc := 69) hC dX3_seen_69 2 (by decide) ?_
        refine WP.icne (pc := 70) hC dX3_seen_70 82 (by decide) (fun h70 => ?_) (fun h70 => ?_)
        · refine WP.iconst (pc := 82) hC dX3_seen_82 0 (by decide) ?_
          refine WP.il (pc := 83) hC dX3_seen_83 rfl ?_
          refine WP.mmax (pc := 85) hC dX3_seen_85 ml_X3_62 ⟨by decide, Nat.le_of_ble_eq_true rfl⟩ ?_
          refine WP.iret (pc := 88) hC rfl dX3_seen_88 ?_ ?_ ?_
          all_goals (first | rfl | exact absurd (h48.symm.trans h70) (by decide) | (subst h13; subst h30; simp [sees, sees1, mx0, lits, h48, h70]; done) | (have h52 := i_nle.mp h52; subst h13; subst h30; simp [sees, sees1, mx0, lits, h48, h52, h70]; done) | (have h52 := i_nlt.mpr h52; subst h13; subst h30; simp [sees, sees1, mx0, lits, h48, h52, h70]; done) | (rw [b2_0] at h30; subst h13; subst h30; simp [sees, sees1, mx0, lits, h70]; done))
        · refine WP.il (pc := 73) hC dX3_seen_73 rfl ?_
          refine WP.il (pc := 75) hC dX3_seen_75 rfl ?_
          refine WP.iconst (pc := 77) hC dX3_seen_77 2 (by decide) ?_
          refine WP.idiv (pc := 78) hC dX3_seen_78 (by decide) ?_
          refine WP.isub (pc := 79) hC dX3_seen_79 ?_
          refine WP.is (lv' := [_, _, _, _, _, _, _, _]) (pc := 80) hC dX3_seen_80 rfl (by decide) rfl ?_
          refine WP.iconst (pc := 82) hC dX3_seen_82 0 (by decide) ?_
          refine WP.il (pc := 83) hC dX3_seen_83 rfl ?_
          refine WP.mmax (pc := 85) hC dX3_seen_85 ml_X3_62 ⟨by decide, Nat.le_of_ble_eq_true rfl⟩ ?_
          refine WP.iret (pc := 88) hC rfl dX3_seen_88 ?_ ?_ ?_
          all_goals (first | rfl | exact absurd (h48.symm.trans h70) (by decide) | (subst h13; subst h30; simp [sees, sees1, mx0, lits, h48, h70]; done) | (have h52 := i_nle.mp h52; subst h13; subst h30; simp [sees, sees1, mx0, lits, h48, h52, h70]; done) | (have h52 := i_nlt.mpr h52; subst h13; subst h30; simp [sees, sees1, mx0, lits, h48, h52, h70]; done) | (rw [b2_0] at h30; subst h13; subst h30; simp [sees, sees1, mx0, lits, h70]; done))
      · refine WP.iln (pc := 51) hC dX3_seen_51 rfl ?_
        refine WP.ifle (pc := 52) hC dX3_seen_52 59 (by decide) (fun h52 => ?_) (fun h52 => ?_)
        · refine WP.iconst (pc := 59) hC dX3_seen_59 0 (by decide) ?_
          refine WP.iadd (pc := 60) hC dX3_seen_60 ?_
          refine WP.is (lv' := [_, _, _, _, _, _, _, _]) (pc := 61) hC dX3_seen_61 rfl (by decide) rfl ?_
          refine WP.aln (pc := 63) hC dX3_seen_63 rfl ?_
          refine WP.gf (pc := 64) hC dX3_seen_64 fl_X3_18 (by decide) rfl rfl ?_
          refine WP.iln (pc := 67) hC dX3_seen_67 rfl ?_
          refine WP.ial (pc := 68) hC dX3_seen_68 i rfl (by omega) (by decide) rfl (by decide) ?_
          refine WP.iconst (pc := 69) hC dX3_seen_69 2 (by decide) ?_
          refine WP.icne (pc := 70) hC dX3_seen_70 82 (by decide) (fun h70 => ?_) (fun h70 => ?_)
          · refine WP.iconst (pc := 82) hC dX3_seen_82 0 (by decide) ?_
            refine WP.il (pc := 83) hC dX3_seen_83 rfl ?_
            refine WP.mmax (pc := 85) hC dX3_seen_85 ml_X3_62 ⟨by decide, Nat.le_of_ble_eq_true rfl⟩ ?_
            refine WP.iret (pc := 88) hC rfl dX3_seen_88 ?_ ?_ ?_
            all_goals (first | rfl | exact absurd (h48.symm.trans h70) (by decide) | (subst h13; subst h30; simp [sees, sees1, mx0, lits, h48, h70]; done) | (have h52 := i_nle.mp h52; subst h13; subst h30; simp [sees, sees1, mx0, lits, h48, h52, h70]; done) | (have h52 := i_nlt.mpr h52; subst h13; subst h30; simp [sees, sees1, mx0, lits, h48, h52, h70]; done) | (rw [b2_0] at h30; subst h13; subst h30; simp [sees, sees1, mx0, lits, h70]; done))
          · refine WP.il (pc := 73) hC dX3_seen_73 rfl ?_
            refine WP.il (pc := 75) hC dX3_seen_75 rfl ?_
            refine WP.iconst (pc := 77) hC dX3_seen_77 2 (by decide) ?_
            refine WP.idiv (pc := 78) hC dX3_seen_78 (by decide) ?_
            refine WP.isub (pc := 79) hC dX3_seen_79 ?_
            refine WP.is (lv' := [_, _, _, _, _, _, _, _]) (pc := 80) hC dX3_seen_80 rfl (by decide) rfl ?_
            refine WP.iconst (pc := 82) hC dX3_seen_82 0 (by decide) ?_
            refine WP.il (pc := 83) hC dX3_seen_83 rfl ?_
            refine WP.mmax (pc := 85) hC dX3_seen_85 ml_X3_62 ⟨by decide, Nat.le_of_ble_eq_true rfl⟩ ?_
            refine WP.iret (pc := 88) hC rfl dX3_seen_88 ?_ ?_ ?_
            all_goals (first | rfl | exact absurd (h48.symm.trans h70) (by decide) | (subst h13; subst h30; simp [sees, sees1, mx0, lits, h48, h70]; done) | (have h52 := i_nle.mp h52; subst h13; subst h30; simp [sees, sees1, mx0, lits, h48, h52, h70]; done) | (have h52 := i_nlt.mpr h52; subst h13; subst h30; simp [sees, sees1, mx0, lits, h48, h52, h70]; done) | (rw [b2_0] at h30; subst h13; subst h30; simp [sees, sees1, mx0, lits, h70]; done))
        · refine WP.iconst (pc := 55) hC dX3_seen_55 2 (by decide) ?_
          refine WP.goto (pc := 56) hC dX3_seen_56 60 (by decide) ?_
          refine WP.iadd (pc := 60) hC dX3_seen_60 ?_
          refine WP.is (lv' := [_, _, _, _, _, _, _, _]) (pc := 61) hC dX3_seen_61 rfl (by decide) rfl ?_
          refine WP.aln (pc := 63) hC dX3_seen_63 rfl ?_
          refine WP.gf (pc := 64) hC dX3_seen_64 fl_X3_18 (by decide) rfl rfl ?_
          refine WP.iln (pc := 67) hC dX3_seen_67 rfl ?_
          refine WP.ial (pc := 68) hC dX3_seen_68 i rfl (by omega) (by decide) rfl (by decide) ?_
          refine WP.iconst (pc := 69) hC dX3_seen_69 2 (by decide) ?_
          refine WP.icne (pc := 70) hC dX3_seen_70 82 (by decide) (fun h70 => ?_) (fun h70 => ?_)
          · refine WP.iconst (pc := 82) hC dX3_seen_82 0 (by decide) ?_
            refine WP.il (pc := 83) hC dX3_seen_83 rfl ?_
            refine WP.mmax (pc := 85) hC dX3_seen_85 ml_X3_62 ⟨by decide, Nat.le_of_ble_eq_true rfl⟩ ?_
            refine WP.iret (pc := 88) hC rfl dX3_seen_88 ?_ ?_ ?_
            all_goals (first | rfl | exact absurd (h48.symm.trans h70) (by decide) | (subst h13; subst h30; simp [sees, sees1, mx0, lits, h48, h70]; done) | (have h52 := i_nle.mp h52; subst h13; subst h30; simp [sees, sees1, mx0, lits, h48, h52, h70]; done) | (have h52 := i_nlt.mpr h52; subst h13; subst h30; simp [sees, sees1, mx0, lits, h48, h52, h70]; done) | (rw [b2_0] at h30; subst h13; subst h30; simp [sees, sees1, mx0, lits, h70]; done))
          · refine WP.il (pc := 73) hC dX3_seen_73 rfl ?_
            refine WP.il (pc := 75) hC dX3_seen_75 rfl ?_
            refine WP.iconst (pc := 77) hC dX3_seen_77 2 (by decide) ?_
            refine WP.idiv (pc := 78) hC dX3_seen_78 (by decide) ?_
            refine WP.isub (pc := 79) hC dX3_seen_79 ?_
            refine WP.is (lv' := [_, _, _, _, _, _, _, _]) (pc := 80) hC dX3_seen_80 rfl (by decide) rfl ?_
            refine WP.iconst (pc := 82) hC dX3_seen_82 0 (by decide) ?_
            refine WP.il (pc := 83) hC dX3_seen_83 rfl ?_
            refine WP.mmax (pc := 85) hC dX3_seen_85 ml_X3_62 ⟨by decide, Nat.le_of_ble_eq_true rfl⟩ ?_
            refine WP.iret (pc := 88) hC rfl dX3_seen_88 ?_ ?_ ?_
            all_goals (first | rfl | exact absurd (h48.symm.trans h70) (by decide) | (subst h13; subst h30; simp [sees, sees1, mx0, lits, h48, h70]; done) | (have h52 := i_nle.mp h52; subst h13; subst h30; simp [sees, sees1, mx0, lits, h48, h52, h70]; done) | (have h52 := i_nlt.mpr h52; subst h13; subst h30; simp [sees, sees1, mx0, lits, h48, h52, h70]; done) | (rw [b2_0] at h30; subst h13; subst h30; simp [sees, sees1, mx0, lits, h70]; done))
set_option maxHeartbeats 4000000 in
theorem k_X3_saysYes (l : Launch) (F : FF) (L : Int64) (nr ns i : Nat) (v : Int32) (hN : NR F nr ns) (hi : i < nr) : CI l yX3_saysYes cX3_saysYes 3 (some .boolean) (rmx 1 21) wN [.ref 3, .int (nI i), .int v] F L (b2 (saysB (F 6 i) (F 5 i) v)) F L := by
  refine mkI [some (.ref 3), some (.int (nI i)), some (.int v)] 0 (by decide) rfl (Nat.le_of_ble_eq_true rfl) ?_
  intro x d hx hC
  subst hx
  have hC : Cx x cX3_saysYes 3 RX3 (some .boolean) (rmx 1 21) wN d := hC
  have hb0 : b2 (hasB (nI i) nr) = 1 := by rw [hasB_in hi hN.2.2.1]; rfl
  have hr5 := hN.2.2.1
  refine WP.aln (pc := 0) hC dX3_saysYes_0 rfl ?_
  refine WP.iln (pc := 1) hC dX3_saysYes_1 rfl ?_
  refine WP.callVI (pc := 2) hC dX3_saysYes_2 (k_X3_hasReader _ F L nr ns (nI i) hN) ml_X3_51 rfl rfl (by decide) rfl (Nat.le_of_ble_eq_true rfl) ⟨by decide, by decide⟩ ?_
  rw [hb0]
  refine WP.ifeq (pc := 5) hC dX3_saysYes_5 32 (by decide) (fun h5 => absurd h5 (by decide)) (fun h5 => ?_)
  refine WP.aln (pc := 8) hC dX3_saysYes_8 rfl ?_
  refine WP.gf (pc := 9) hC dX3_saysYes_9 fl_X3_18 (by decide) rfl rfl ?_
  refine WP.iln (pc := 12) hC dX3_saysYes_12 rfl ?_
  refine WP.ial (pc := 13) hC dX3_saysYes_13 i rfl (by omega) (by decide) rfl (by decide) ?_
  refine WP.iconst (pc := 14) hC dX3_saysYes_14 3 (by decide) ?_
  refine WP.iceq (pc := 15) hC dX3_saysYes_15 28 (by decide) (fun h15 => ?_) (fun h15 => ?_)
  · refine WP.iconst (pc := 28) hC dX3_saysYes_28 1 (by decide) ?_
    refine WP.goto (pc := 29) hC dX3_saysYes_29 33 (by decide) ?_
    refine WP.zret (pc := 33) hC rfl (by first | exact Or.inl rfl | exact Or.inr rfl | exact b2_01 _) dX3_saysYes_33 ?_ ?_ ?_
    all_goals (first | rfl | (simp [saysB, b2, h15]; done) | (simp [saysB, b2, h15, i_nlt.mp h25]; done) | (simp [saysB, b2, h15, i_nle.mpr h25]; done))
  · refine WP.iln (pc := 18) hC dX3_saysYes_18 rfl ?_
    refine WP.aln (pc := 19) hC dX3_saysYes_19 rfl ?_
    refine WP.gf (pc := 20) hC dX3_saysYes_20 fl_X3_15 (by decide) rfl rfl ?_
    refine WP.iln (pc := 23) hC dX3_saysYes_23 rfl ?_
    refine WP.ial (pc := 24) hC dX3_saysYes_24 i rfl (by omega) (by decide) rfl (by decide) ?_
    refine WP.iclt (pc := 25) hC dX3_saysYes_25 32 (by decide) (fun h25 => ?_) (fun h25 => ?_)
    · refine WP.iconst (pc := 32) hC dX3_saysYes_32 0 (by decide) ?_
      refine WP.zret (pc := 33) hC rfl (by first | exact Or.inl rfl | exact Or.inr rfl | exact b2_01 _) dX3_saysYes_33 ?_ ?_ ?_
      all_goals (first | rfl | (simp [saysB, b2, h15]; done) | (simp [saysB, b2, h15, i_nlt.mp h25]; done) | (simp [saysB, b2, h15, i_nle.mpr h25]; done))
    · refine WP.iconst (pc := 28) hC dX3_saysYes_28 1 (by decide) ?_
      refine WP.goto (pc := 29) hC dX3_saysYes_29 33 (by decide) ?_
      refine WP.zret (pc := 33) hC rfl (by first | exact Or.inl rfl | exact Or.inr rfl | exact b2_01 _) dX3_saysYes_33 ?_ ?_ ?_
      all_goals (first | rfl | (simp [saysB, b2, h15]; done) | (simp [saysB, b2, h15, i_nlt.mp h25]; done) | (simp [saysB, b2, h15, i_nle.mpr h25]; done))
set_option maxHeartbeats 4000000 in
theorem k_X3_addSample (l : Launch) (F : FF) (L : Int64) (nr ns : Nat) (v : Int32) (hN : NR F nr ns) : CV l yX3_addSample cX3_addSample 2 none (rmx 0 0) wN [.ref 3, .int v] F L (if ns < 4 then addS F v ns else F) L := by
  refine mkV [some (.ref 3), some (.int v)] 0 (by decide) rfl (Nat.le_of_ble_eq_true rfl) ?_
  intro x d hx hC
  subst hx
  have hC : Cx x cX3_addSample 2 RX3 none (rmx 0 0) wN d := hC
  have hs4 := hN.2.2.2
  have e5 := hN.2.1
  refine WP.aln (pc := 0) hC dX3_addSample_0 rfl ?_
  refine WP.gf (pc := 1) hC dX3_addSample_1 fl_X3_28 (by decide) rfl rfl ?_
  refine WP.iconst (pc := 4) hC dX3_addSample_4 4 (by decide) ?_
  refine WP.icge (pc := 5) hC dX3_addSample_5 28 (by decide) (fun h5 => ?_) (fun h5 => ?_)
  · refine WP.vret (pc := 28) hC rfl dX3_addSample_28 ?_ ?_
    all_goals (first | rfl | (rw [if_pos h9, addS, ← nIp1, ← e5]; rfl) | (rw [e5] at h5; rw [if_neg (fun q => nI_ge q (by decide) h5)]))
  · have h9 : ns < 4 := by
      rw [e5] at h5
      exact (nI_ltI (b := 4) (by omega) (by decide)).mp (i_nle.mp h5)
    refine WP.aln (pc := 8) hC dX3_addSample_8 rfl ?_
    refine WP.gf (pc := 9) hC dX3_addSample_9 fl_X3_21 (by decide) rfl rfl ?_
    refine WP.aln (pc := 12) hC dX3_addSample_12 rfl ?_
    refine WP.gf (pc := 13) hC dX3_addSample_13 fl_X3_28 (by decide) rfl rfl ?_
    refine WP.iln (pc := 16) hC dX3_addSample_16 rfl ?_
    refine WP.ias (pc := 17) hC dX3_addSample_17 ns e5 h9 (by decide) rfl rfl (by decide) ?_
    refine WP.aln (pc := 18) hC dX3_addSample_18 rfl ?_
    refine WP.dup (pc := 19) hC dX3_addSample_19 rfl ?_
    refine WP.gf (pc := 20) hC dX3_addSample_20 fl_X3_28 (by decide) rfl rfl ?_
    refine WP.iconst (pc := 23) hC dX3_addSample_23 1 (by decide) ?_
    refine WP.iadd (pc := 24) hC dX3_addSample_24 ?_
    refine WP.pf (pc := 25) hC dX3_addSample_25 fp_X3_28 rfl rfl (by decide) rfl rfl (Nat.le_of_ble_eq_true rfl) ?_
    refine WP.vret (pc := 28) hC rfl dX3_addSample_28 ?_ ?_
    all_goals (first | rfl | (rw [if_pos h9, addS, ← nIp1, ← e5]; rfl) | (rw [e5] at h5; rw [if_neg (fun q => nI_ge q (by decide) h5)]))
set_option maxHeartbeats 4000000 in
theorem k_X3_addReader (l : Launch) (F : FF) (L : Int64) (n nr ns j : Nat) (hN : NR F nr ns) (hn : TL F n) (hj : j < 900) : CV l yX3_addReader cX3_addReader 3 none (rmx 2 42) wN [.ref 3, .ref 1, .int (nI j)] F L (if nr < 5 then addR F (F 2) n j nr else F) L := by
  refine mkV [some (.ref 3), some (.ref 1), some (.int (nI j))] 0 (by decide) rfl (Nat.le_of_ble_eq_true rfl) ?_
  intro x d hx hC
  subst hx
  have hC : Cx x cX3_addReader 3 RX3 none (rmx 2 42) wN d := hC
  have hr5 := hN.2.2.1
  have e4 := hN.1
  refine WP.aln (pc := 0) hC dX3_addReader_0 rfl ?_
  refine WP.gf (pc := 1) hC dX3_addReader_1 fl_X3_24 (by decide) rfl rfl ?_
  refine WP.iconst (pc := 4) hC dX3_addReader_4 5 (by decide) ?_
  refine WP.icge (pc := 5) hC dX3_addReader_5 64 (by decide) (fun h5 => ?_) (fun h5 => ?_)
  · refine WP.vret (pc := 64) hC rfl dX3_addReader_64 ?_ ?_
    all_goals (first | rfl | (rw [if_pos h9, addR, ← nIp1, ← e4]; rfl) | (rw [e4] at h5; rw [if_neg (fun q => nI_ge q (by decide) h5)]))
  · have h9 : nr < 5 := by
      rw [e4] at h5
      exact (nI_ltI (b := 5) (by omega) (by decide)).mp (i_nle.mp h5)
    refine WP.aln (pc := 8) hC dX3_addReader_8 rfl ?_
    refine WP.gf (pc := 9) hC dX3_addReader_9 fl_X3_9 (by decide) rfl rfl ?_
    refine WP.aln (pc := 12) hC dX3_addReader_12 rfl ?_
    refine WP.gf (pc := 13) hC dX3_addReader_13 fl_X3_24 (by decide) rfl rfl ?_
    refine WP.aln (pc := 16) hC dX3_addReader_16 rfl ?_
    refine WP.iln (pc := 17) hC dX3_addReader_17 rfl ?_
    refine WP.callVI (pc := 18) hC dX3_addReader_18 (k_X4_figureAt _ F L n j hn (by omega)) ml_X3_44 rfl rfl (by decide) rfl (Nat.le_of_ble_eq_true rfl) ⟨by decide, by decide⟩ ?_
    refine WP.ias (pc := 21) hC dX3_addReader_21 nr e4 h9 (by decide) rfl rfl (by decide) ?_
    refine WP.aln (pc := 22) hC dX3_addReader_22 rfl ?_
    refine WP.gf (pc := 23) hC dX3_addReader_23 fl_X3_15 (by decide) rfl rfl ?_
    refine WP.aln (pc := 26) hC dX3_addReader_26 rfl ?_
    refine WP.gf (pc := 27) hC dX3_addReader_27 fl_X3_24 (by decide) rfl rfl ?_
    refine WP.aln (pc := 30) hC dX3_addReader_30 rfl ?_
    refine WP.iln (pc := 31) hC dX3_addReader_31 rfl ?_
    refine WP.iconst (pc := 32) hC dX3_addReader_32 1 (by decide) ?_
    refine WP.iadd (pc := 33) hC dX3_addReader_33 ?_
    rw [nIp1]
    refine WP.callVI (pc := 34) hC dX3_addReader_34 (k_X4_figureAt _ _ L n (j + 1) (show TL (up2 F 4 nr _) n from hn) (by omega)) ml_X3_44 rfl rfl (by decide) rfl (Nat.le_of_ble_eq_true rfl) ⟨by decide, by decide⟩ ?_
    refine WP.ias (pc := 37) hC dX3_addReader_37 nr e4 h9 (by decide) rfl rfl (by decide) ?_
    refine WP.aln (pc := 38) hC dX3_addReader_38 rfl ?_
    refine WP.gf (pc := 39) hC dX3_addReader_39 fl_X3_18 (by decide) rfl rfl ?_
    refine WP.aln (pc := 42) hC dX3_addReader_42 rfl ?_
    refine WP.gf (pc := 43) hC dX3_addReader_43 fl_X3_24 (by decide) rfl rfl ?_
    refine WP.aln (pc := 46) hC dX3_addReader_46 rfl ?_
    refine WP.iln (pc := 47) hC dX3_addReader_47 rfl ?_
    refine WP.iconst (pc := 48) hC dX3_addReader_48 2 (by decide) ?_
    refine WP.iadd (pc := 49) hC dX3_addReader_49 ?_
    rw [nIp2]
    refine WP.callVI (pc := 50) hC dX3_addReader_50 (k_X4_figureAt _ _ L n (j + 2) (show TL (up2 (up2 F 4 nr _) 5 nr _) n from hn) (by omega)) ml_X3_44 rfl rfl (by decide) rfl (Nat.le_of_ble_eq_true rfl) ⟨by decide, by decide⟩ ?_
    refine WP.ias (pc := 53) hC dX3_addReader_53 nr e4 h9 (by decide) rfl rfl (by decide) ?_
    refine WP.aln (pc := 54) hC dX3_addReader_54 rfl ?_
    refine WP.dup (pc := 55) hC dX3_addReader_55 rfl ?_
    refine WP.gf (pc := 56) hC dX3_addReader_56 fl_X3_24 (by decide) rfl rfl ?_
    refine WP.iconst (pc := 59) hC dX3_addReader_59 1 (by decide) ?_
    refine WP.iadd (pc := 60) hC dX3_addReader_60 ?_
    refine WP.pf (pc := 61) hC dX3_addReader_61 fp_X3_24 rfl rfl (by decide) rfl rfl (Nat.le_of_ble_eq_true rfl) ?_
    refine WP.vret (pc := 64) hC rfl dX3_addReader_64 ?_ ?_
    all_goals (first | rfl | (rw [if_pos h9, addR, ← nIp1, ← e4]; rfl) | (rw [e4] at h5; rw [if_neg (fun q => nI_ge q (by decide) h5)]))
set_option maxHeartbeats 4000000 in
theorem k_X3_make (l : Launch) (F : FF) (L : Int64) (n : Nat) (hn : TL F n) : CV l yX3_make cX3_make 3 none (rmx 3 64) wN [.ref 3, .ref 1] F L (makeN (F 2) n 36 1 0 0 (up2 (up2 F 3 4 0) 3 5 0)) L := by
  refine mkV [some (.ref 3), some (.ref 1), none] 1 (by decide) rfl (Nat.le_of_ble_eq_true rfl) ?_
  intro x d hx hC
  subst hx
  have hC : Cx x cX3_make 3 RX3 none (rmx 3 64) wN d := hC
  have loop : ∀ (f j r s : Nat) (G : FF), G 2 = F 2 → G 1 1 = nI n → G 3 4 = nI r → G 3 5 = nI s → r ≤ 5 → s ≤ 4 → n ≤ j + f → j ≤ 40 → makeN (F 2) n f j r s G = makeN (F 2) n 36 1 0 0 (up2 (up2 F 3 4 0) 3 5 0) → WP x 3 wN d (QV x wN d (makeN (F 2) n 36 1 0 0 (up2 (up2 F 3 4 0) 3 5 0)) L) 12 [some (.ref 3), some (.ref 1), some (.int (nI j))] [] G L := by
    have hn36 := hn.2
    intro f
    induction f with
    | zero =>
      intro j r s G hg hT hR hS hr hs hf hj hv
      refine WP.iln (pc := 12) hC dX3_make_12 rfl ?_
      refine WP.aln (pc := 13) hC dX3_make_13 rfl ?_
      refine WP.gf (pc := 14) hC dX3_make_14 fl_X3_31 (by decide) rfl rfl ?_
      refine WP.icge (pc := 17) hC dX3_make_17 61 (by decide) (fun h17 => ?_) (fun h17 => absurd h17 (fun q => q (by rw [hT]; exact nI_le (by omega) (by omega))))
      refine WP.vret (pc := 61) hC rfl dX3_make_61 ?_ ?_
      all_goals (first | rfl | (rw [← hv, makeN, if_neg (fun q => by rw [hT] at h17; exact nI_ge q (by omega) h17)]; done) | (rw [← hv]; rfl))
    | succ f ih =>
      intro j r s G hg hT hR hS hr hs hf hj hv
      refine WP.iln (pc := 12) hC dX3_make_12 rfl ?_
      refine WP.aln (pc := 13) hC dX3_make_13 rfl ?_
      refine WP.gf (pc := 14) hC dX3_make_14 fl_X3_31 (by decide) rfl rfl ?_
      refine WP.icge (pc := 17) hC dX3_make_17 61 (by decide) (fun h17 => ?_) (fun h17 => ?_)
      · refine WP.vret (pc := 61) hC rfl dX3_make_61 ?_ ?_
        all_goals (first | rfl | (rw [← hv, makeN, if_neg (fun q => by rw [hT] at h17; exact nI_ge q (by omega) h17)]; done) | (rw [← hv]; rfl))
      · have hjn : j < n := by
          rw [hT] at h17
          exact (nI_ltI (by omega) (by omega)).mp (i_nle.mp h17)
        rw [makeN, if_pos hjn] at hv
        refine WP.aln (pc := 20) hC dX3_make_20 rfl ?_
        refine WP.iln (pc := 21) hC dX3_make_21 rfl ?_
        refine WP.callVI (pc := 22) hC dX3_make_22 (k_X4_letterAt _ G L n j ⟨hT, hn36⟩ (by omega)) ml_X3_36 rfl rfl (by decide) rfl (Nat.le_of_ble_eq_true rfl) ⟨by decide, by decide⟩ ?_
        rw [hg]
        refine WP.bipush (pc := 25) hC dX3_make_25 82 (by decide) ?_
        refine WP.icne (pc := 27) hC dX3_make_27 44 (by decide) (fun h27 => ?_) (fun h27 => ?_)
        · rw [if_neg h27] at hv
          refine WP.aln (pc := 44) hC dX3_make_44 rfl ?_
          refine WP.aln (pc := 45) hC dX3_make_45 rfl ?_
          refine WP.iln (pc := 46) hC dX3_make_46 rfl ?_
          refine WP.iconst (pc := 47) hC dX3_make_47 1 (by decide) ?_
          refine WP.iadd (pc := 48) hC dX3_make_48 ?_
          rw [nIp1]
          refine WP.callVI (pc := 49) hC dX3_make_49 (k_X4_figureAt _ G L n (j + 1) ⟨hT, hn36⟩ (by omega)) ml_X3_44 rfl rfl (by decide) rfl (Nat.le_of_ble_eq_true rfl) ⟨by decide, by decide⟩ ?_
          refine WP.callVV (pc := 52) hC dX3_make_52 (k_X3_addSample _ G L r s _ ⟨hR, hS, hr, hs⟩) ml_X3_47 rfl rfl (by decide) rfl (Nat.le_of_ble_eq_true rfl) ⟨by decide, by decide⟩ ?_
          refine WP.iinc (lv' := [_, _, _]) (pc := 55) hC dX3_make_55 rfl (_ + 2) rfl rfl (by decide) rfl ?_
          refine WP.goto (pc := 58) hC dX3_make_58 12 (by decide) ?_
          simp only [nIp2]
          by_cases h5 : s < 4
          · rw [if_pos h5] at hv ⊢
            rw [hg]
            refine ih _ _ _ _ ?_ ?_ ?_ ?_ (by omega) (by omega) (by omega) (by omega) hv
            all_goals first | exact hg | simp [addS, up2_at, hg, hT, hR, hS]
          · rw [if_neg h5] at hv ⊢
            exact ih _ _ _ _ hg hT hR hS (by omega) (by omega) (by omega) (by omega) hv
        · rw [if_pos h27] at hv
          refine WP.aln (pc := 30) hC dX3_make_30 rfl ?_
          refine WP.aln (pc := 31) hC dX3_make_31 rfl ?_
          refine WP.iln (pc := 32) hC dX3_make_32 rfl ?_
          refine WP.iconst (pc := 33) hC dX3_make_33 1 (by decide) ?_
          refine WP.iadd (pc := 34) hC dX3_make_34 ?_
          rw [nIp1]
          refine WP.callVV (pc := 35) hC dX3_make_35 (k_X3_addReader _ G L n r s (j + 1) ⟨hR, hS, hr, hs⟩ ⟨hT, hn36⟩ (by omega)) ml_X3_40 rfl rfl (by decide) rfl (Nat.le_of_ble_eq_true rfl) ⟨by decide, by decide⟩ ?_
          refine WP.iinc (lv' := [_, _, _]) (pc := 38) hC dX3_make_38 rfl (_ + 4) rfl rfl (by decide) rfl ?_
          refine WP.goto (pc := 41) hC dX3_make_41 12 (by decide) ?_
          simp only [nIp4]
          by_cases h5 : r < 5
          · rw [if_pos h5] at hv ⊢
            rw [hg]
            refine ih _ _ _ _ ?_ ?_ ?_ ?_ (by omega) (by omega) (by omega) (by omega) hv
            all_goals first | exact hg | simp [addR, up2_at, hg, hT, hR, hS]
          · rw [if_neg h5] at hv ⊢
            exact ih _ _ _ _ hg hT hR hS (by omega) (by omega) (by omega) (by omega) hv
  refine WP.aln (pc := 0) hC dX3_make_0 rfl ?_
  refine WP.iconst (pc := 1) hC dX3_make_1 0 (by decide) ?_
  refine WP.pf (pc := 2) hC dX3_make_2 fp_X3_24 rfl rfl (by decide) rfl rfl (Nat.le_of_ble_eq_true rfl) ?_
  refine WP.aln (pc := 5) hC dX3_make_5 rfl ?_
  refine WP.iconst (pc := 6) hC dX3_make_6 0 (by decide) ?_
  refine WP.pf (pc := 7) hC dX3_make_7 fp_X3_28 rfl rfl (by decide) rfl rfl (Nat.le_of_ble_eq_true rfl) ?_
  refine WP.iconst (pc := 10) hC dX3_make_10 1 (by decide) ?_
  refine WP.isn (lv' := [_, _, _]) (pc := 11) hC dX3_make_11 rfl (by decide) rfl ?_
  exact loop 36 1 0 0 _ rfl hn.1 rfl rfl (by decide) (by decide) (by have := hn.2; omega) (by decide) rfl
