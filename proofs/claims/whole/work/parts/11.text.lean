/-! ===== numbers ===== -/
theorem i_lt (a b : Int32) : a < b ↔ a.toInt < b.toInt := Int32.lt_iff_toInt_lt
theorem i_le (a b : Int32) : a ≤ b ↔ a.toInt ≤ b.toInt := Int32.le_iff_toInt_le
theorem i_eq (a b : Int32) : a = b ↔ a.toInt = b.toInt := Int32.toInt_inj.symm
theorem i_nle {a b : Int32} : ¬ a ≤ b ↔ b < a := by rw [i_lt, i_le]; omega
theorem i_nlt {a b : Int32} : ¬ a < b ↔ b ≤ a := by rw [i_lt, i_le]; omega
theorem ix2 {p : Int32} {n : Nat} (h0 : 0 ≤ p) (h1 : p < nI n) (hn : n < 2 ^ 31) : ∃ j, j < n ∧ p = nI j := by
  obtain ⟨j, hj, rfl⟩ := nI_of (x := p) (i_nlt.mpr h0)
  exact ⟨j, (nI_ltI hj hn).mp h1, rfl⟩
/-! ===== Text ===== -/
/-- the text's length -/
def TL (F : FF) (n : Nat) : Prop := F 1 1 = nI n ∧ n ≤ 36
def latN (g : Nat → Int32) (n j : Nat) : Int32 := if j < n then g j else 0
def ffN (g : Nat → Int32) (n j : Nat) (lo hi : Int32) : Int32 := if lo ≤ latN g n j ∧ latN g n j ≤ hi then -9 else nI j
def rfN (g : Nat → Int32) (n j : Nat) : Int32 := if ffN g n j 48 57 = -9 then (if ffN g n (j + 1) 49 57 = -9 then ffN g n (j + 2) 48 51 else ffN g n (j + 1) 49 57) else ffN g n j 48 57
def scanN (g : Nat → Int32) (n : Nat) : Nat → Nat → Nat → Nat → Int32
  | 0, _, _, _ => -9
  | f + 1, j, r, s => if j < n then
      (if g j = 82 ∧ r < 5 then (if rfN g n (j + 1) = -9 then scanN g n f (j + 4) (r + 1) s else rfN g n (j + 1))
      else if g j = 83 ∧ s < 4 then (if ffN g n (j + 1) 48 57 = -9 then scanN g n f (j + 2) r (s + 1) else ffN g n (j + 1) 48 57)
      else nI j)
    else -9
def faultN (g : Nat → Int32) (n : Nat) : Int32 := if latN g n 0 = 69 then scanN g n 36 1 0 0 else 0

set_option maxHeartbeats 4000000 in
theorem k_X4_append (l : Launch) (F : FF) (L : Int64) (n : Nat) (v : Int32) (hn : TL F n) : CI l yX4_append cX4_append 2 (some .boolean) (rmx 0 0) wN [.ref 1, .int v] F L (b2 (decide (n < 36))) (if n < 36 then up2 (up2 F 2 n v) 1 1 (F 1 1 + 1) else F) L := by
  refine mkI [some (.ref 1), some (.int v)] 0 (by decide) rfl (Nat.le_of_ble_eq_true rfl) ?_
  intro x d hx hC
  subst hx
  have hC : Cx x cX4_append 2 RX4 (some .boolean) (rmx 0 0) wN d := hC
  obtain ⟨hn, hn2⟩ := hn
  refine WP.aln (pc := 0) hC dX4_append_0 rfl ?_
  refine WP.gf (pc := 1) hC dX4_append_1 fl_X4_15 (by decide) rfl rfl ?_
  refine WP.iflt (pc := 4) hC dX4_append_4 16 (by decide) (fun h4 => ?_) (fun h4 => ?_)
  · have h9 : ¬ n < 36 := by
      intro q
      first | exact absurd h13 (by rw [hn]; exact fun z => z (nI_lt q (by decide))) | exact absurd h4 (by rw [hn]; exact nI_pos (by omega))
    refine WP.iconst (pc := 16) hC dX4_append_16 0 (by decide) ?_
    refine WP.zret (pc := 17) hC rfl (by first | exact Or.inl rfl | exact Or.inr rfl | exact b2_01 _) dX4_append_17 ?_ ?_ ?_
    all_goals (first | rfl | (simp [b2, h9, up2_at]; done))
  · refine WP.aln (pc := 7) hC dX4_append_7 rfl ?_
    refine WP.gf (pc := 8) hC dX4_append_8 fl_X4_15 (by decide) rfl rfl ?_
    refine WP.bipush (pc := 11) hC dX4_append_11 36 (by decide) ?_
    refine WP.iclt (pc := 13) hC dX4_append_13 18 (by decide) (fun h13 => ?_) (fun h13 => ?_)
    · have h9 : n < 36 := by
        rw [hn] at h13
        exact (nI_ltI (by omega) (by decide)).mp h13
      refine WP.aln (pc := 18) hC dX4_append_18 rfl ?_
      refine WP.gf (pc := 19) hC dX4_append_19 fl_X4_9 (by decide) rfl rfl ?_
      refine WP.aln (pc := 22) hC dX4_append_22 rfl ?_
      refine WP.gf (pc := 23) hC dX4_append_23 fl_X4_15 (by decide) rfl rfl ?_
      refine WP.iln (pc := 26) hC dX4_append_26 rfl ?_
      refine WP.ias (pc := 27) hC dX4_append_27 n hn h9 (by decide) rfl rfl (by decide) ?_
      refine WP.aln (pc := 28) hC dX4_append_28 rfl ?_
      refine WP.dup (pc := 29) hC dX4_append_29 rfl ?_
      refine WP.gf (pc := 30) hC dX4_append_30 fl_X4_15 (by decide) rfl rfl ?_
      refine WP.iconst (pc := 33) hC dX4_append_33 1 (by decide) ?_
      refine WP.iadd (pc := 34) hC dX4_append_34 ?_
      refine WP.pf (pc := 35) hC dX4_append_35 fp_X4_15 rfl rfl (by decide) rfl rfl (Nat.le_of_ble_eq_true rfl) ?_
      refine WP.iconst (pc := 38) hC dX4_append_38 1 (by decide) ?_
      refine WP.zret (pc := 39) hC rfl (by first | exact Or.inl rfl | exact Or.inr rfl | exact b2_01 _) dX4_append_39 ?_ ?_ ?_
      all_goals (first | rfl | (simp [b2, h9, up2_at]; done))
    · have h9 : ¬ n < 36 := by
        intro q
        first | exact absurd h13 (by rw [hn]; exact fun z => z (nI_lt q (by decide))) | exact absurd h4 (by rw [hn]; exact nI_pos (by omega))
      refine WP.iconst (pc := 16) hC dX4_append_16 0 (by decide) ?_
      refine WP.zret (pc := 17) hC rfl (by first | exact Or.inl rfl | exact Or.inr rfl | exact b2_01 _) dX4_append_17 ?_ ?_ ?_
      all_goals (first | rfl | (simp [b2, h9, up2_at]; done))
theorem nIp1 (a : Nat) : nI a + 1 = nI (a + 1) := nI_add a 1
theorem nIp2 (a : Nat) : nI a + 2 = nI (a + 2) := nI_add a 2
theorem nIp4 (a : Nat) : nI a + 4 = nI (a + 4) := nI_add a 4
theorem nIp0 (a : Nat) : nI a + 0 = nI a := nI_add a 0
set_option maxHeartbeats 4000000 in
theorem k_X4_letterAt (l : Launch) (F : FF) (L : Int64) (n j : Nat) (hn : TL F n) (hj : j < 1000) : CI l yX4_letterAt cX4_letterAt 2 (some .int) (rmx 0 0) wN [.ref 1, .int (nI j)] F L (latN (F 2) n j) F L := by
  refine mkI [some (.ref 1), some (.int (nI j))] 0 (by decide) rfl (Nat.le_of_ble_eq_true rfl) ?_
  intro x d hx hC
  subst hx
  have hC : Cx x cX4_letterAt 2 RX4 (some .int) (rmx 0 0) wN d := hC
  obtain ⟨hn, hn2⟩ := hn
  refine WP.iln (pc := 0) hC dX4_letterAt_0 rfl ?_
  refine WP.iflt (pc := 1) hC dX4_letterAt_1 27 (by decide) (fun h1 => absurd h1 (nI_pos (by omega))) (fun h1 => ?_)
  refine WP.iln (pc := 4) hC dX4_letterAt_4 rfl ?_
  refine WP.aln (pc := 5) hC dX4_letterAt_5 rfl ?_
  refine WP.gf (pc := 6) hC dX4_letterAt_6 fl_X4_15 (by decide) rfl rfl ?_
  refine WP.icge (pc := 9) hC dX4_letterAt_9 27 (by decide) (fun h9 => ?_) (fun h9 => ?_)
  · have h9 : ¬ j < n := by
      rw [hn] at h9
      exact fun q => nI_ge q (by omega) h9
    refine WP.iconst (pc := 27) hC dX4_letterAt_27 0 (by decide) ?_
    refine WP.iret (pc := 28) hC rfl dX4_letterAt_28 ?_ ?_ ?_
    all_goals (first | rfl | (simp [latN, h9]; done))
  · have h9 : j < n := by
      rw [hn] at h9
      exact (nI_ltI (by omega) (by omega)).mp (i_nle.mp h9)
    refine WP.iln (pc := 12) hC dX4_letterAt_12 rfl ?_
    refine WP.bipush (pc := 13) hC dX4_letterAt_13 36 (by decide) ?_
    refine WP.icge (pc := 15) hC dX4_letterAt_15 27 (by decide) (fun h15 => absurd h15 (nI_ge (b := 36) (a := j) (by omega) (by decide))) (fun h15 => ?_)
    refine WP.aln (pc := 18) hC dX4_letterAt_18 rfl ?_
    refine WP.gf (pc := 19) hC dX4_letterAt_19 fl_X4_9 (by decide) rfl rfl ?_
    refine WP.iln (pc := 22) hC dX4_letterAt_22 rfl ?_
    refine WP.ial (pc := 23) hC dX4_letterAt_23 j rfl (by omega) (by decide) rfl (by decide) ?_
    refine WP.goto (pc := 24) hC dX4_letterAt_24 28 (by decide) ?_
    refine WP.iret (pc := 28) hC rfl dX4_letterAt_28 ?_ ?_ ?_
    all_goals (first | rfl | (simp [latN, h9]; done))
set_option maxHeartbeats 4000000 in
theorem k_X4_figureAt (l : Launch) (F : FF) (L : Int64) (n j : Nat) (hn : TL F n) (hj : j < 1000) : CI l yX4_figureAt cX4_figureAt 2 (some .int) (rmx 1 21) wN [.ref 1, .int (nI j)] F L (latN (F 2) n j - 48) F L := by
  refine mkI [some (.ref 1), some (.int (nI j))] 0 (by decide) rfl (Nat.le_of_ble_eq_true rfl) ?_
  intro x d hx hC
  subst hx
  have hC : Cx x cX4_figureAt 2 RX4 (some .int) (rmx 1 21) wN d := hC
  refine WP.aln (pc := 0) hC dX4_figureAt_0 rfl ?_
  refine WP.iln (pc := 1) hC dX4_figureAt_1 rfl ?_
  refine WP.callVI (pc := 2) hC dX4_figureAt_2 (k_X4_letterAt _ F L n j hn hj) ml_X4_19 rfl rfl (by decide) rfl (Nat.le_of_ble_eq_true rfl) ⟨by decide, by decide⟩ ?_
  refine WP.bipush (pc := 5) hC dX4_figureAt_5 48 (by decide) ?_
  refine WP.isub (pc := 7) hC dX4_figureAt_7 ?_
  refine WP.iret (pc := 8) hC rfl dX4_figureAt_8 ?_ ?_ ?_
  all_goals (rfl)
set_option maxHeartbeats 4000000 in
theorem k_X4_figureFault (l : Launch) (F : FF) (L : Int64) (n j : Nat) (lo hi : Int32) (hn : TL F n) (hj : j < 1000) : CI l yX4_figureFault cX4_figureFault 5 (some .int) (rmx 1 21) wN [.ref 1, .int (nI j), .int lo, .int hi] F L (ffN (F 2) n j lo hi) F L := by
  refine mkI [some (.ref 1), some (.int (nI j)), some (.int lo), some (.int hi), none] 1 (by decide) rfl (Nat.le_of_ble_eq_true rfl) ?_
  intro x d hx hC
  subst hx
  have hC : Cx x cX4_figureFault 5 RX4 (some .int) (rmx 1 21) wN d := hC
  refine WP.aln (pc := 0) hC dX4_figureFault_0 rfl ?_
  refine WP.iln (pc := 1) hC dX4_figureFault_1 rfl ?_
  refine WP.callVI (pc := 2) hC dX4_figureFault_2 (k_X4_letterAt _ F L n j hn hj) ml_X4_19 rfl rfl (by decide) rfl (Nat.le_of_ble_eq_true rfl) ⟨by decide, by decide⟩ ?_
  refine WP.iln (pc := 5) hC dX4_figureFault_5 rfl ?_
  refine WP.iclt (pc := 6) hC dX4_figureFault_6 22 (by decide) (fun h6 => ?_) (fun h6 => ?_)
  · refine WP.iconst (pc := 22) hC dX4_figureFault_22 0 (by decide) ?_
    refine WP.is (lv' := [_, _, _, _, _]) (pc := 23) hC dX4_figureFault_23 rfl (by decide) rfl ?_
    refine WP.il (pc := 25) hC dX4_figureFault_25 rfl ?_
    refine WP.ifeq (pc := 27) hC dX4_figureFault_27 35 (by decide) (fun h27 => ?_) (fun h27 => absurd h27 (by decide))
    refine WP.iln (pc := 35) hC dX4_figureFault_35 rfl ?_
    refine WP.iret (pc := 36) hC rfl dX4_figureFault_36 ?_ ?_ ?_
    all_goals (first | rfl | (unfold ffN; rw [if_pos ⟨i_nlt.mp h6, i_nlt.mp h15⟩]; done) | (unfold ffN; rw [if_neg (fun q => i_nlt.mpr q.1 h6)]; done) | (unfold ffN; rw [if_neg (fun q => i_nlt.mpr q.2 h15)]; done))
  · refine WP.aln (pc := 9) hC dX4_figureFault_9 rfl ?_
    refine WP.iln (pc := 10) hC dX4_figureFault_10 rfl ?_
    refine WP.callVI (pc := 11) hC dX4_figureFault_11 (k_X4_letterAt _ F L n j hn hj) ml_X4_19 rfl rfl (by decide) rfl (Nat.le_of_ble_eq_true rfl) ⟨by decide, by decide⟩ ?_
    refine WP.iln (pc := 14) hC dX4_figureFault_14 rfl ?_
    refine WP.icgt (pc := 15) hC dX4_figureFault_15 22 (by decide) (fun h15 => ?_) (fun h15 => ?_)
    · refine WP.iconst (pc := 22) hC dX4_figureFault_22 0 (by decide) ?_
      refine WP.is (lv' := [_, _, _, _, _]) (pc := 23) hC dX4_figureFault_23 rfl (by decide) rfl ?_
      refine WP.il (pc := 25) hC dX4_figureFault_25 rfl ?_
      refine WP.ifeq (pc := 27) hC dX4_figureFault_27 35 (by decide) (fun h27 => ?_) (fun h27 => absurd h27 (by decide))
      refine WP.iln (pc := 35) hC dX4_figureFault_35 rfl ?_
      refine WP.iret (pc := 36) hC rfl dX4_figureFault_36 ?_ ?_ ?_
      all_goals (first | rfl | (unfold ffN; rw [if_pos ⟨i_nlt.mp h6, i_nlt.mp h15⟩]; done) | (unfold ffN; rw [if_neg (fun q => i_nlt.mpr q.1 h6)]; done) | (unfold ffN; rw [if_neg (fun q => i_nlt.mpr q.2 h15)]; done))
    · refine WP.iconst (pc := 18) hC dX4_figureFault_18 1 (by decide) ?_
      refine WP.goto (pc := 19) hC dX4_figureFault_19 23 (by decide) ?_
      refine WP.is (lv' := [_, _, _, _, _]) (pc := 23) hC dX4_figureFault_23 rfl (by decide) rfl ?_
      refine WP.il (pc := 25) hC dX4_figureFault_25 rfl ?_
      refine WP.ifeq (pc := 27) hC dX4_figureFault_27 35 (by decide) (fun h27 => absurd h27 (by decide)) (fun h27 => ?_)
      refine WP.bipush (pc := 30) hC dX4_figureFault_30 (-9) (by decide) ?_
      refine WP.goto (pc := 32) hC dX4_figureFault_32 36 (by decide) ?_
      refine WP.iret (pc := 36) hC rfl dX4_figureFault_36 ?_ ?_ ?_
      all_goals (first | rfl | (unfold ffN; rw [if_pos ⟨i_nlt.mp h6, i_nlt.mp h15⟩]; done) | (unfold ffN; rw [if_neg (fun q => i_nlt.mpr q.1 h6)]; done) | (unfold ffN; rw [if_neg (fun q => i_nlt.mpr q.2 h15)]; done))
set_option maxHeartbeats 4000000 in
theorem k_X4_readerFault (l : Launch) (F : FF) (L : Int64) (n j : Nat) (hn : TL F n) (hj : j < 900) : CI l yX4_readerFault cX4_readerFault 4 (some .int) (rmx 2 45) wN [.ref 1, .int (nI j)] F L (rfN (F 2) n j) F L := by
  refine mkI [some (.ref 1), some (.int (nI j)), none, none] 2 (by decide) rfl (Nat.le_of_ble_eq_true rfl) ?_
  intro x d hx hC
  subst hx
  have hC : Cx x cX4_readerFault 4 RX4 (some .int) (rmx 2 45) wN d := hC
  refine WP.aln (pc := 0) hC dX4_readerFault_0 rfl ?_
  refine WP.iln (pc := 1) hC dX4_readerFault_1 rfl ?_
  refine WP.bipush (pc := 2) hC dX4_readerFault_2 48 (by decide) ?_
  refine WP.bipush (pc := 4) hC dX4_readerFault_4 57 (by decide) ?_
  refine WP.callVI (pc := 6) hC dX4_readerFault_6 (k_X4_figureFault _ F L n j 48 57 hn (by omega)) ml_X4_26 rfl rfl (by decide) rfl (Nat.le_of_ble_eq_true rfl) ⟨by decide, by decide⟩ ?_
  refine WP.isn (lv' := [_, _, _, _]) (pc := 9) hC dX4_readerFault_9 rfl (by decide) rfl ?_
  refine WP.iln (pc := 10) hC dX4_readerFault_10 rfl ?_
  refine WP.bipush (pc := 11) hC dX4_readerFault_11 (-9) (by decide) ?_
  refine WP.iceq (pc := 13) hC dX4_readerFault_13 18 (by decide) (fun h13 => ?_) (fun h13 => ?_)
  · refine WP.aln (pc := 18) hC dX4_readerFault_18 rfl ?_
    refine WP.iln (pc := 19) hC dX4_readerFault_19 rfl ?_
    refine WP.iconst (pc := 20) hC dX4_readerFault_20 1 (by decide) ?_
    refine WP.iadd (pc := 21) hC dX4_readerFault_21 ?_
    rw [nIp1]
    refine WP.bipush (pc := 22) hC dX4_readerFault_22 49 (by decide) ?_
    refine WP.bipush (pc := 24) hC dX4_readerFault_24 57 (by decide) ?_
    refine WP.callVI (pc := 26) hC dX4_readerFault_26 (k_X4_figureFault _ F L n (j + 1) 49 57 hn (by omega)) ml_X4_26 rfl rfl (by decide) rfl (Nat.le_of_ble_eq_true rfl) ⟨by decide, by decide⟩ ?_
    refine WP.isn (lv' := [_, _, _, _]) (pc := 29) hC dX4_readerFault_29 rfl (by decide) rfl ?_
    refine WP.iln (pc := 30) hC dX4_readerFault_30 rfl ?_
    refine WP.bipush (pc := 31) hC dX4_readerFault_31 (-9) (by decide) ?_
    refine WP.iceq (pc := 33) hC dX4_readerFault_33 40 (by decide) (fun h33 => ?_) (fun h33 => ?_)
    · refine WP.aln (pc := 40) hC dX4_readerFault_40 rfl ?_
      refine WP.iln (pc := 41) hC dX4_readerFault_41 rfl ?_
      refine WP.iconst (pc := 42) hC dX4_readerFault_42 2 (by decide) ?_
      refine WP.iadd (pc := 43) hC dX4_readerFault_43 ?_
      rw [nIp2]
      refine WP.bipush (pc := 44) hC dX4_readerFault_44 48 (by decide) ?_
      refine WP.bipush (pc := 46) hC dX4_readerFault_46 51 (by decide) ?_
      refine WP.callVI (pc := 48) hC dX4_readerFault_48 (k_X4_figureFault _ F L n (j + 2) 48 51 hn (by omega)) ml_X4_26 rfl rfl (by decide) rfl (Nat.le_of_ble_eq_true rfl) ⟨by decide, by decide⟩ ?_
      refine WP.iret (pc := 51) hC rfl dX4_readerFault_51 ?_ ?_ ?_
      all_goals (first | rfl | (unfold rfN; simp only [h13, h33, if_true, if_false]; done) | (unfold rfN; simp [h13]; done)| (unfold rfN; simp [h13, h33]; done))
    · refine WP.iln (pc := 36) hC dX4_readerFault_36 rfl ?_
      refine WP.goto (pc := 37) hC dX4_readerFault_37 51 (by decide) ?_
      refine WP.iret (pc := 51) hC rfl dX4_readerFault_51 ?_ ?_ ?_
      all_goals (first | rfl | (unfold rfN; simp only [h13, h33, if_true, if_false]; done) | (unfold rfN; simp [h13]; done)| (unfold rfN; simp [h13, h33]; done))
  · refine WP.iln (pc := 16) hC dX4_readerFault_16 rfl ?_
    refine WP.iret (pc := 17) hC rfl dX4_readerFault_17 ?_ ?_ ?_
    all_goals (first | rfl | (unfold rfN; simp only [h13, h33, if_true, if_false]; done) | (unfold rfN; simp [h13]; done)| (unfold rfN; simp [h13, h33]; done))
set_option maxHeartbeats 4000000 in
theorem k_X4_firstFault (l : Launch) (F : FF) (L : Int64) (n : Nat) (hn : TL F n) : CI l yX4_firstFault cX4_firstFault 7 (some .int) (rmx 3 68) wN [.ref 1] F L (faultN (F 2) n) F L := by
  refine mkI [some (.ref 1), none, none, none, none, none, none] 6 (by decide) rfl (Nat.le_of_ble_eq_true rfl) ?_
  intro x d hx hC
  subst hx
  have hC : Cx x cX4_firstFault 7 RX4 (some .int) (rmx 3 68) wN d := hC
  have loop : ∀ (f j r s : Nat) (a4 a5 a6 : Option Value), n ≤ j + f → j ≤ 40 → r ≤ 5 → s ≤ 4 → scanN (F 2) n f j r s = faultN (F 2) n → WP x 7 wN d (QI x wN d (faultN (F 2) n) F L) 18 [some (.ref 1), some (.int (nI r)), some (.int (nI s)), some (.int (nI j)), a4, a5, a6] [] F L := by
    have hn36 := hn.2
    intro f
    induction f with
    | zero =>
      intro j r s a4 a5 a6 hf hj hr hs hv
      refine WP.iln (pc := 18) hC dX4_firstFault_18 rfl ?_
      refine WP.aln (pc := 19) hC dX4_firstFault_19 rfl ?_
      refine WP.gf (pc := 20) hC dX4_firstFault_20 fl_X4_15 (by decide) rfl rfl ?_
      refine WP.icge (pc := 23) hC dX4_firstFault_23 162 (by decide) (fun h23 => ?_) (fun h23 => absurd h23 (fun q => q (by rw [hn.1]; exact nI_le (by omega) (by omega))))
      refine WP.bipush (pc := 162) hC dX4_firstFault_162 (-9) (by decide) ?_
      refine WP.iret (pc := 164) hC rfl dX4_firstFault_164 ?_ ?_ ?_
      all_goals (first | rfl | (rw [← hv, scanN, if_neg (fun q => by rw [hn.1] at h23; exact nI_ge q (by omega) h23)]; done) | (rw [← hv]; rfl))
    | succ f ih =>
      intro j r s a4 a5 a6 hf hj hr hs hv
      refine WP.iln (pc := 18) hC dX4_firstFault_18 rfl ?_
      refine WP.aln (pc := 19) hC dX4_firstFault_19 rfl ?_
      refine WP.gf (pc := 20) hC dX4_firstFault_20 fl_X4_15 (by decide) rfl rfl ?_
      refine WP.icge (pc := 23) hC dX4_firstFault_23 162 (by decide) (fun h23 => ?_) (fun h23 => ?_)
      · refine WP.bipush (pc := 162) hC dX4_firstFault_162 (-9) (by decide) ?_
        refine WP.iret (pc := 164) hC rfl dX4_firstFault_164 ?_ ?_ ?_
        all_goals (first | rfl | (rw [← hv, scanN, if_neg (fun q => by rw [hn.1] at h23; exact nI_ge q (by omega) h23)]; done) | (rw [← hv]; rfl))
      · have hjn : j < n := by
          have h23 := h23
          rw [hn.1] at h23
          exact (nI_ltI (by omega) (by omega)).mp (i_nle.mp h23)
        have hlat : latN (F 2) n j = F 2 j := by simp [latN, hjn]
        rw [scanN, if_pos hjn] at hv
        refine WP.aln (pc := 26) hC dX4_firstFault_26 rfl ?_
        refine WP.iln (pc := 27) hC dX4_firstFault_27 rfl ?_
        refine WP.callVI (pc := 28) hC dX4_firstFault_28 (k_X4_letterAt _ F L n j hn (by omega)) ml_X4_19 rfl rfl (by decide) rfl (Nat.le_of_ble_eq_true rfl) ⟨by decide, by decide⟩ ?_
        refine WP.bipush (pc := 31) hC dX4_firstFault_31 82 (by decide) ?_
        refine WP.icne (pc := 33) hC dX4_firstFault_33 45 (by decide) (fun h33 => ?_) (fun h33 => ?_)
        · have hnr : ¬ (F 2 j = 82 ∧ r < 5) := by
            rintro ⟨q1, q2⟩
            first | exact h33 (hlat.trans q1) | exact nI_ge q2 (by decide) h38
          rw [if_neg hnr] at hv
          refine WP.iconst (pc := 45) hC dX4_firstFault_45 0 (by decide) ?_
          refine WP.is (lv' := [_, _, _, _, _, _, _]) (pc := 46) hC dX4_firstFault_46 rfl (by decide) rfl ?_
          refine WP.aln (pc := 48) hC dX4_firstFault_48 rfl ?_
          refine WP.iln (pc := 49) hC dX4_firstFault_49 rfl ?_
          refine WP.callVI (pc := 50) hC dX4_firstFault_50 (k_X4_letterAt _ F L n j hn (by omega)) ml_X4_19 rfl rfl (by decide) rfl (Nat.le_of_ble_eq_true rfl) ⟨by decide, by decide⟩ ?_
          refine WP.bipush (pc := 53) hC dX4_firstFault_53 83 (by decide) ?_
          refine WP.icne (pc := 55) hC dX4_firstFault_55 67 (by decide) (fun h55 => ?_) (fun h55 => ?_)
          · have hns : ¬ (F 2 j = 83 ∧ s < 4) := by
              rintro ⟨q1, q2⟩
              first | exact h55 (hlat.trans q1) | exact nI_ge q2 (by decide) h60
            first | rw [if_neg hns] at hv | skip
            refine WP.iconst (pc := 67) hC dX4_firstFault_67 0 (by decide) ?_
            refine WP.is (lv' := [_, _, _, _, _, _, _]) (pc := 68) hC dX4_firstFault_68 rfl (by decide) rfl ?_
            refine WP.il (pc := 70) hC dX4_firstFault_70 rfl ?_
            refine WP.ifne (pc := 72) hC dX4_firstFault_72 82 (by decide) (fun h72 => absurd h72 (by decide)) (fun h72 => ?_)
            refine WP.il (pc := 75) hC dX4_firstFault_75 rfl ?_
            refine WP.ifne (pc := 77) hC dX4_firstFault_77 82 (by decide) (fun h77 => absurd h77 (by decide)) (fun h77 => ?_)
            refine WP.iln (pc := 80) hC dX4_firstFault_80 rfl ?_
            refine WP.iret (pc := 81) hC rfl dX4_firstFault_81 ?_ ?_ ?_
            all_goals (first | rfl | exact hv)
          · refine WP.iln (pc := 58) hC dX4_firstFault_58 rfl ?_
            refine WP.iconst (pc := 59) hC dX4_firstFault_59 4 (by decide) ?_
            refine WP.icge (pc := 60) hC dX4_firstFault_60 67 (by decide) (fun h60 => ?_) (fun h60 => ?_)
            · have hns : ¬ (F 2 j = 83 ∧ s < 4) := by
                rintro ⟨q1, q2⟩
                first | exact h55 (hlat.trans q1) | exact nI_ge q2 (by decide) h60
              first | rw [if_neg hns] at hv | skip
              refine WP.iconst (pc := 67) hC dX4_firstFault_67 0 (by decide) ?_
              refine WP.is (lv' := [_, _, _, _, _, _, _]) (pc := 68) hC dX4_firstFault_68 rfl (by decide) rfl ?_
              refine WP.il (pc := 70) hC dX4_firstFault_70 rfl ?_
              refine WP.ifne (pc := 72) hC dX4_firstFault_72 82 (by decide) (fun h72 => absurd h72 (by decide)) (fun h72 => ?_)
              refine WP.il (pc := 75) hC dX4_firstFault_75 rfl ?_
              refine WP.ifne (pc := 77) hC dX4_firstFault_77 82 (by decide) (fun h77 => absurd h77 (by decide)) (fun h77 => ?_)
              refine WP.iln (pc := 80) hC dX4_firstFault_80 rfl ?_
              refine WP.iret (pc := 81) hC rfl dX4_firstFault_81 ?_ ?_ ?_
              all_goals (first | rfl | exact hv)
            · rw [hlat] at h55
              have hs4 : s < 4 := (nI_ltI (b := 4) (by omega) (by decide)).mp (i_nle.mp h60)
              first | rw [if_pos (show F 2 j = 83 ∧ s < 4 from ⟨h55, hs4⟩)] at hv | skip
              refine WP.iconst (pc := 63) hC dX4_firstFault_63 1 (by decide) ?_
              refine WP.goto (pc := 64) hC dX4_firstFault_64 68 (by decide) ?_
              refine WP.is (lv' := [_, _, _, _, _, _, _]) (pc := 68) hC dX4_firstFault_68 rfl (by decide) rfl ?_
              refine WP.il (pc := 70) hC dX4_firstFault_70 rfl ?_
              refine WP.ifne (pc := 72) hC dX4_firstFault_72 82 (by decide) (fun h72 => absurd h72 (by decide)) (fun h72 => ?_)
              refine WP.il (pc := 75) hC dX4_firstFault_75 rfl ?_
              refine WP.ifne (pc := 77) hC dX4_firstFault_77 82 (by decide) (fun h77 => ?_) (fun h77 => absurd h77 (by decide))
              refine WP.il (pc := 82) hC dX4_firstFault_82 rfl ?_
              refine WP.ifeq (pc := 84) hC dX4_firstFault_84 97 (by decide) (fun h84 => ?_) (fun h84 => absurd h84 (by decide))
              refine WP.aln (pc := 97) hC dX4_firstFault_97 rfl ?_
              refine WP.iln (pc := 98) hC dX4_firstFault_98 rfl ?_
              refine WP.iconst (pc := 99) hC dX4_firstFault_99 1 (by decide) ?_
              refine WP.iadd (pc := 100) hC dX4_firstFault_100 ?_
              rw [nIp1]
              refine WP.bipush (pc := 101) hC dX4_firstFault_101 48 (by decide) ?_
              refine WP.bipush (pc := 103) hC dX4_firstFault_103 57 (by decide) ?_
              refine WP.callVI (pc := 105) hC dX4_firstFault_105 (k_X4_figureFault _ F L n (j + 1) 48 57 hn (by omega)) ml_X4_26 rfl rfl (by decide) rfl (Nat.le_of_ble_eq_true rfl) ⟨by decide, by decide⟩ ?_
              refine WP.is (lv' := [_, _, _, _, _, _, _]) (pc := 108) hC dX4_firstFault_108 rfl (by decide) rfl ?_
              refine WP.il (pc := 110) hC dX4_firstFault_110 rfl ?_
              refine WP.bipush (pc := 112) hC dX4_firstFault_112 (-9) (by decide) ?_
              refine WP.iceq (pc := 114) hC dX4_firstFault_114 120 (by decide) (fun h114 => ?_) (fun h114 => ?_)
              · first | rw [if_pos h114] at hv | skip
                refine WP.iln (pc := 120) hC dX4_firstFault_120 rfl ?_
                refine WP.il (pc := 121) hC dX4_firstFault_121 rfl ?_
                refine WP.ifeq (pc := 123) hC dX4_firstFault_123 130 (by decide) (fun h123 => ?_) (fun h123 => absurd h123 (by decide))
                refine WP.iconst (pc := 130) hC dX4_firstFault_130 0 (by decide) ?_
                refine WP.iadd (pc := 131) hC dX4_firstFault_131 ?_
                refine WP.isn (lv' := [_, _, _, _, _, _, _]) (pc := 132) hC dX4_firstFault_132 rfl (by decide) rfl ?_
                refine WP.iln (pc := 133) hC dX4_firstFault_133 rfl ?_
                refine WP.il (pc := 134) hC dX4_firstFault_134 rfl ?_
                refine WP.ifeq (pc := 136) hC dX4_firstFault_136 143 (by decide) (fun h136 => absurd h136 (by decide)) (fun h136 => ?_)
                refine WP.iconst (pc := 139) hC dX4_firstFault_139 1 (by decide) ?_
                refine WP.goto (pc := 140) hC dX4_firstFault_140 144 (by decide) ?_
                refine WP.iadd (pc := 144) hC dX4_firstFault_144 ?_
                refine WP.isn (lv' := [_, _, _, _, _, _, _]) (pc := 145) hC dX4_firstFault_145 rfl (by decide) rfl ?_
                refine WP.iln (pc := 146) hC dX4_firstFault_146 rfl ?_
                refine WP.il (pc := 147) hC dX4_firstFault_147 rfl ?_
                refine WP.ifeq (pc := 149) hC dX4_firstFault_149 156 (by decide) (fun h149 => ?_) (fun h149 => absurd h149 (by decide))
                refine WP.iconst (pc := 156) hC dX4_firstFault_156 2 (by decide) ?_
                refine WP.iadd (pc := 157) hC dX4_firstFault_157 ?_
                refine WP.isn (lv' := [_, _, _, _, _, _, _]) (pc := 158) hC dX4_firstFault_158 rfl (by decide) rfl ?_
                refine WP.goto (pc := 159) hC dX4_firstFault_159 18 (by decide) ?_
                first | exact ih _ _ _ _ _ _ (by omega) (by omega) (by omega) (by omega) hv | (simp only [nIp4, nIp2, nIp1, nIp0]; exact ih _ _ _ _ _ _ (by omega) (by omega) (by omega) (by omega) hv) | (exact absurd (h33.symm.trans h55) (by decide))
              · first | rw [if_neg h114] at hv | skip
                refine WP.il (pc := 117) hC dX4_firstFault_117 rfl ?_
                refine WP.iret (pc := 119) hC rfl dX4_firstFault_119 ?_ ?_ ?_
                all_goals (first | rfl | exact hv)
        · refine WP.iln (pc := 36) hC dX4_firstFault_36 rfl ?_
          refine WP.iconst (pc := 37) hC dX4_firstFault_37 5 (by decide) ?_
          refine WP.icge (pc := 38) hC dX4_firstFault_38 45 (by decide) (fun h38 => ?_) (fun h38 => ?_)
          · have hnr : ¬ (F 2 j = 82 ∧ r < 5) := by
              rintro ⟨q1, q2⟩
              first | exact h33 (hlat.trans q1) | exact nI_ge q2 (by decide) h38
            rw [if_neg hnr] at hv
            refine WP.iconst (pc := 45) hC dX4_firstFault_45 0 (by decide) ?_
            refine WP.is (lv' := [_, _, _, _, _, _, _]) (pc := 46) hC dX4_firstFault_46 rfl (by decide) rfl ?_
            refine WP.aln (pc := 48) hC dX4_firstFault_48 rfl ?_
            refine WP.iln (pc := 49) hC dX4_firstFault_49 rfl ?_
            refine WP.callVI (pc := 50) hC dX4_firstFault_50 (k_X4_letterAt _ F L n j hn (by omega)) ml_X4_19 rfl rfl (by decide) rfl (Nat.le_of_ble_eq_true rfl) ⟨by decide, by decide⟩ ?_
            refine WP.bipush (pc := 53) hC dX4_firstFault_53 83 (by decide) ?_
            refine WP.icne (pc := 55) hC dX4_firstFault_55 67 (by decide) (fun h55 => ?_) (fun h55 => ?_)
            · have hns : ¬ (F 2 j = 83 ∧ s < 4) := by
                rintro ⟨q1, q2⟩
                first | exact h55 (hlat.trans q1) | exact nI_ge q2 (by decide) h60
              first | rw [if_neg hns] at hv | skip
              refine WP.iconst (pc := 67) hC dX4_firstFault_67 0 (by decide) ?_
              refine WP.is (lv' := [_, _, _, _, _, _, _]) (pc := 68) hC dX4_firstFault_68 rfl (by decide) rfl ?_
              refine WP.il (pc := 70) hC dX4_firstFault_70 rfl ?_
              refine WP.ifne (pc := 72) hC dX4_firstFault_72 82 (by decide) (fun h72 => absurd h72 (by decide)) (fun h72 => ?_)
              refine WP.il (pc := 75) hC dX4_firstFault_75 rfl ?_
              refine WP.ifne (pc := 77) hC dX4_firstFault_77 82 (by decide) (fun h77 => absurd h77 (by decide)) (fun h77 => ?_)
              refine WP.iln (pc := 80) hC dX4_firstFault_80 rfl ?_
              refine WP.iret (pc := 81) hC rfl dX4_firstFault_81 ?_ ?_ ?_
              all_goals (first | rfl | exact hv)
            · refine WP.iln (pc := 58) hC dX4_firstFault_58 rfl ?_
              refine WP.iconst (pc := 59) hC dX4_firstFault_59 4 (by decide) ?_
              refine WP.icge (pc := 60) hC dX4_firstFault_60 67 (by decide) (fun h60 => ?_) (fun h60 => ?_)
              · have hns : ¬ (F 2 j = 83 ∧ s < 4) := by
                  rintro ⟨q1, q2⟩
                  first | exact h55 (hlat.trans q1) | exact nI_ge q2 (by decide) h60
                first | rw [if_neg hns] at hv | skip
                refine WP.iconst (pc := 67) hC dX4_firstFault_67 0 (by decide) ?_
                refine WP.is (lv' := [_, _, _, _, _, _, _]) (pc := 68) hC dX4_firstFault_68 rfl (by decide) rfl ?_
                refine WP.il (pc := 70) hC dX4_firstFault_70 rfl ?_
                refine WP.ifne (pc := 72) hC dX4_firstFault_72 82 (by decide) (fun h72 => absurd h72 (by decide)) (fun h72 => ?_)
                refine WP.il (pc := 75) hC dX4_firstFault_75 rfl ?_
                refine WP.ifne (pc := 77) hC dX4_firstFault_77 82 (by decide) (fun h77 => absurd h77 (by decide)) (fun h77 => ?_)
                refine WP.iln (pc := 80) hC dX4_firstFault_80 rfl ?_
                refine WP.iret (pc := 81) hC rfl dX4_firstFault_81 ?_ ?_ ?_
                all_goals (first | rfl | exact hv)
              · rw [hlat] at h55
                have hs4 : s < 4 := (nI_ltI (b := 4) (by omega) (by decide)).mp (i_nle.mp h60)
                first | rw [if_pos (show F 2 j = 83 ∧ s < 4 from ⟨h55, hs4⟩)] at hv | skip
                refine WP.iconst (pc := 63) hC dX4_firstFault_63 1 (by decide) ?_
                refine WP.goto (pc := 64) hC dX4_firstFault_64 68 (by decide) ?_
                refine WP.is (lv' := [_, _, _, _, _, _, _]) (pc := 68) hC dX4_firstFault_68 rfl (by decide) rfl ?_
                refine WP.il (pc := 70) hC dX4_firstFault_70 rfl ?_
                refine WP.ifne (pc := 72) hC dX4_firstFault_72 82 (by decide) (fun h72 => absurd h72 (by decide)) (fun h72 => ?_)
                refine WP.il (pc := 75) hC dX4_firstFault_75 rfl ?_
                refine WP.ifne (pc := 77) hC dX4_firstFault_77 82 (by decide) (fun h77 => ?_) (fun h77 => absurd h77 (by decide))
                refine WP.il (pc := 82) hC dX4_firstFault_82 rfl ?_
                refine WP.ifeq (pc := 84) hC dX4_firstFault_84 97 (by decide) (fun h84 => ?_) (fun h84 => absurd h84 (by decide))
                refine WP.aln (pc := 97) hC dX4_firstFault_97 rfl ?_
                refine WP.iln (pc := 98) hC dX4_firstFault_98 rfl ?_
                refine WP.iconst (pc := 99) hC dX4_firstFault_99 1 (by decide) ?_
                refine WP.iadd (pc := 100) hC dX4_firstFault_100 ?_
                rw [nIp1]
                refine WP.bipush (pc := 101) hC dX4_firstFault_101 48 (by decide) ?_
                refine WP.bipush (pc := 103) hC dX4_firstFault_103 57 (by decide) ?_
                refine WP.callVI (pc := 105) hC dX4_firstFault_105 (k_X4_figureFault _ F L n (j + 1) 48 57 hn (by omega)) ml_X4_26 rfl rfl (by decide) rfl (Nat.le_of_ble_eq_true rfl) ⟨by decide, by decide⟩ ?_
                refine WP.is (lv' := [_, _, _, _, _, _, _]) (pc := 108) hC dX4_firstFault_108 rfl (by decide) rfl ?_
                refine WP.il (pc := 110) hC dX4_firstFault_110 rfl ?_
                refine WP.bipush (pc := 112) hC dX4_firstFault_112 (-9) (by decide) ?_
                refine WP.iceq (pc := 114) hC dX4_firstFault_114 120 (by decide) (fun h114 => ?_) (fun h114 => ?_)
                · first | rw [if_pos h114] at hv | skip
                  refine WP.iln (pc := 120) hC dX4_firstFault_120 rfl ?_
                  refine WP.il (pc := 121) hC dX4_firstFault_121 rfl ?_
                  refine WP.ifeq (pc := 123) hC dX4_firstFault_123 130 (by decide) (fun h123 => ?_) (fun h123 => absurd h123 (by decide))
                  refine WP.iconst (pc := 130) hC dX4_firstFault_130 0 (by decide) ?_
                  refine WP.iadd (pc := 131) hC dX4_firstFault_131 ?_
                  refine WP.isn (lv' := [_, _, _, _, _, _, _]) (pc := 132) hC dX4_firstFault_132 rfl (by decide) rfl ?_
                  refine WP.iln (pc := 133) hC dX4_firstFault_133 rfl ?_
                  refine WP.il (pc := 134) hC dX4_firstFault_134 rfl ?_
                  refine WP.ifeq (pc := 136) hC dX4_firstFault_136 143 (by decide) (fun h136 => absurd h136 (by decide)) (fun h136 => ?_)
                  refine WP.iconst (pc := 139) hC dX4_firstFault_139 1 (by decide) ?_
                  refine WP.goto (pc := 140) hC dX4_firstFault_140 144 (by decide) ?_
                  refine WP.iadd (pc := 144) hC dX4_firstFault_144 ?_
                  refine WP.isn (lv' := [_, _, _, _, _, _, _]) (pc := 145) hC dX4_firstFault_145 rfl (by decide) rfl ?_
                  refine WP.iln (pc := 146) hC dX4_firstFault_146 rfl ?_
                  refine WP.il (pc := 147) hC dX4_firstFault_147 rfl ?_
                  refine WP.ifeq (pc := 149) hC dX4_firstFault_149 156 (by decide) (fun h149 => ?_) (fun h149 => absurd h149 (by decide))
                  refine WP.iconst (pc := 156) hC dX4_firstFault_156 2 (by decide) ?_
                  refine WP.iadd (pc := 157) hC dX4_firstFault_157 ?_
                  refine WP.isn (lv' := [_, _, _, _, _, _, _]) (pc := 158) hC dX4_firstFault_158 rfl (by decide) rfl ?_
                  refine WP.goto (pc := 159) hC dX4_firstFault_159 18 (by decide) ?_
                  first | exact ih _ _ _ _ _ _ (by omega) (by omega) (by omega) (by omega) hv | (simp only [nIp4, nIp2, nIp1, nIp0]; exact ih _ _ _ _ _ _ (by omega) (by omega) (by omega) (by omega) hv) | (exact absurd (h33.symm.trans h55) (by decide))
                · first | rw [if_neg h114] at hv | skip
                  refine WP.il (pc := 117) hC dX4_firstFault_117 rfl ?_
                  refine WP.iret (pc := 119) hC rfl dX4_firstFault_119 ?_ ?_ ?_
                  all_goals (first | rfl | exact hv)
          · rw [hlat] at h33
            have hr5 : r < 5 := (nI_ltI (b := 5) (by omega) (by decide)).mp (i_nle.mp h38)
            rw [if_pos ⟨h33, hr5⟩] at hv
            refine WP.iconst (pc := 41) hC dX4_firstFault_41 1 (by decide) ?_
            refine WP.goto (pc := 42) hC dX4_firstFault_42 46 (by decide) ?_
            refine WP.is (lv' := [_, _, _, _, _, _, _]) (pc := 46) hC dX4_firstFault_46 rfl (by decide) rfl ?_
            refine WP.aln (pc := 48) hC dX4_firstFault_48 rfl ?_
            refine WP.iln (pc := 49) hC dX4_firstFault_49 rfl ?_
            refine WP.callVI (pc := 50) hC dX4_firstFault_50 (k_X4_letterAt _ F L n j hn (by omega)) ml_X4_19 rfl rfl (by decide) rfl (Nat.le_of_ble_eq_true rfl) ⟨by decide, by decide⟩ ?_
            refine WP.bipush (pc := 53) hC dX4_firstFault_53 83 (by decide) ?_
            refine WP.icne (pc := 55) hC dX4_firstFault_55 67 (by decide) (fun h55 => ?_) (fun h55 => ?_)
            · have hns : ¬ (F 2 j = 83 ∧ s < 4) := by
                rintro ⟨q1, q2⟩
                first | exact h55 (hlat.trans q1) | exact nI_ge q2 (by decide) h60
              first | rw [if_neg hns] at hv | skip
              refine WP.iconst (pc := 67) hC dX4_firstFault_67 0 (by decide) ?_
              refine WP.is (lv' := [_, _, _, _, _, _, _]) (pc := 68) hC dX4_firstFault_68 rfl (by decide) rfl ?_
              refine WP.il (pc := 70) hC dX4_firstFault_70 rfl ?_
              refine WP.ifne (pc := 72) hC dX4_firstFault_72 82 (by decide) (fun h72 => ?_) (fun h72 => absurd h72 (by decide))
              refine WP.il (pc := 82) hC dX4_firstFault_82 rfl ?_
              refine WP.ifeq (pc := 84) hC dX4_firstFault_84 97 (by decide) (fun h84 => absurd h84 (by decide)) (fun h84 => ?_)
              refine WP.aln (pc := 87) hC dX4_firstFault_87 rfl ?_
              refine WP.iln (pc := 88) hC dX4_firstFault_88 rfl ?_
              refine WP.iconst (pc := 89) hC dX4_firstFault_89 1 (by decide) ?_
              refine WP.iadd (pc := 90) hC dX4_firstFault_90 ?_
              rw [nIp1]
              refine WP.callVI (pc := 91) hC dX4_firstFault_91 (k_X4_readerFault _ F L n (j + 1) hn (by omega)) ml_X4_23 rfl rfl (by decide) rfl (Nat.le_of_ble_eq_true rfl) ⟨by decide, by decide⟩ ?_
              refine WP.goto (pc := 94) hC dX4_firstFault_94 108 (by decide) ?_
              refine WP.is (lv' := [_, _, _, _, _, _, _]) (pc := 108) hC dX4_firstFault_108 rfl (by decide) rfl ?_
              refine WP.il (pc := 110) hC dX4_firstFault_110 rfl ?_
              refine WP.bipush (pc := 112) hC dX4_firstFault_112 (-9) (by decide) ?_
              refine WP.iceq (pc := 114) hC dX4_firstFault_114 120 (by decide) (fun h114 => ?_) (fun h114 => ?_)
              · first | rw [if_pos h114] at hv | skip
                refine WP.iln (pc := 120) hC dX4_firstFault_120 rfl ?_
                refine WP.il (pc := 121) hC dX4_firstFault_121 rfl ?_
                refine WP.ifeq (pc := 123) hC dX4_firstFault_123 130 (by decide) (fun h123 => absurd h123 (by decide)) (fun h123 => ?_)
                refine WP.iconst (pc := 126) hC dX4_firstFault_126 1 (by decide) ?_
                refine WP.goto (pc := 127) hC dX4_firstFault_127 131 (by decide) ?_
                refine WP.iadd (pc := 131) hC dX4_firstFault_131 ?_
                refine WP.isn (lv' := [_, _, _, _, _, _, _]) (pc := 132) hC dX4_firstFault_132 rfl (by decide) rfl ?_
                refine WP.iln (pc := 133) hC dX4_firstFault_133 rfl ?_
                refine WP.il (pc := 134) hC dX4_firstFault_134 rfl ?_
                refine WP.ifeq (pc := 136) hC dX4_firstFault_136 143 (by decide) (fun h136 => ?_) (fun h136 => absurd h136 (by decide))
                refine WP.iconst (pc := 143) hC dX4_firstFault_143 0 (by decide) ?_
                refine WP.iadd (pc := 144) hC dX4_firstFault_144 ?_
                refine WP.isn (lv' := [_, _, _, _, _, _, _]) (pc := 145) hC dX4_firstFault_145 rfl (by decide) rfl ?_
                refine WP.iln (pc := 146) hC dX4_firstFault_146 rfl ?_
                refine WP.il (pc := 147) hC dX4_firstFault_147 rfl ?_
                refine WP.ifeq (pc := 149) hC dX4_firstFault_149 156 (by decide) (fun h149 => absurd h149 (by decide)) (fun h149 => ?_)
                refine WP.iconst (pc := 152) hC dX4_firstFault_152 4 (by decide) ?_
                refine WP.goto (pc := 153) hC dX4_firstFault_153 157 (by decide) ?_
                refine WP.iadd (pc := 157) hC dX4_firstFault_157 ?_
                refine WP.isn (lv' := [_, _, _, _, _, _, _]) (pc := 158) hC dX4_firstFault_158 rfl (by decide) rfl ?_
                refine WP.goto (pc := 159) hC dX4_firstFault_159 18 (by decide) ?_
                first | exact ih _ _ _ _ _ _ (by omega) (by omega) (by omega) (by omega) hv | (simp only [nIp4, nIp2, nIp1, nIp0]; exact ih _ _ _ _ _ _ (by omega) (by omega) (by omega) (by omega) hv) | (exact absurd (h33.symm.trans h55) (by decide))
              · first | rw [if_neg h114] at hv | skip
                refine WP.il (pc := 117) hC dX4_firstFault_117 rfl ?_
                refine WP.iret (pc := 119) hC rfl dX4_firstFault_119 ?_ ?_ ?_
                all_goals (first | rfl | exact hv)
            · refine WP.iln (pc := 58) hC dX4_firstFault_58 rfl ?_
              refine WP.iconst (pc := 59) hC dX4_firstFault_59 4 (by decide) ?_
              refine WP.icge (pc := 60) hC dX4_firstFault_60 67 (by decide) (fun h60 => ?_) (fun h60 => ?_)
              · have hns : ¬ (F 2 j = 83 ∧ s < 4) := by
                  rintro ⟨q1, q2⟩
                  first | exact h55 (hlat.trans q1) | exact nI_ge q2 (by decide) h60
                first | rw [if_neg hns] at hv | skip
                refine WP.iconst (pc := 67) hC dX4_firstFault_67 0 (by decide) ?_
                refine WP.is (lv' := [_, _, _, _, _, _, _]) (pc := 68) hC dX4_firstFault_68 rfl (by decide) rfl ?_
                refine WP.il (pc := 70) hC dX4_firstFault_70 rfl ?_
                refine WP.ifne (pc := 72) hC dX4_firstFault_72 82 (by decide) (fun h72 => ?_) (fun h72 => absurd h72 (by decide))
                refine WP.il (pc := 82) hC dX4_firstFault_82 rfl ?_
                refine WP.ifeq (pc := 84) hC dX4_firstFault_84 97 (by decide) (fun h84 => absurd h84 (by decide)) (fun h84 => ?_)
                refine WP.aln (pc := 87) hC dX4_firstFault_87 rfl ?_
                refine WP.iln (pc := 88) hC dX4_firstFault_88 rfl ?_
                refine WP.iconst (pc := 89) hC dX4_firstFault_89 1 (by decide) ?_
                refine WP.iadd (pc := 90) hC dX4_firstFault_90 ?_
                rw [nIp1]
                refine WP.callVI (pc := 91) hC dX4_firstFault_91 (k_X4_readerFault _ F L n (j + 1) hn (by omega)) ml_X4_23 rfl rfl (by decide) rfl (Nat.le_of_ble_eq_true rfl) ⟨by decide, by decide⟩ ?_
                refine WP.goto (pc := 94) hC dX4_firstFault_94 108 (by decide) ?_
                refine WP.is (lv' := [_, _, _, _, _, _, _]) (pc := 108) hC dX4_firstFault_108 rfl (by decide) rfl ?_
                refine WP.il (pc := 110) hC dX4_firstFault_110 rfl ?_
                refine WP.bipush (pc := 112) hC dX4_firstFault_112 (-9) (by decide) ?_
                refine WP.iceq (pc := 114) hC dX4_firstFault_114 120 (by decide) (fun h114 => ?_) (fun h114 => ?_)
                · first | rw [if_pos h114] at hv | skip
                  refine WP.iln (pc := 120) hC dX4_firstFault_120 rfl ?_
                  refine WP.il (pc := 121) hC dX4_firstFault_121 rfl ?_
                  refine WP.ifeq (pc := 123) hC dX4_firstFault_123 130 (by decide) (fun h123 => absurd h123 (by decide)) (fun h123 => ?_)
                  refine WP.iconst (pc := 126) hC dX4_firstFault_126 1 (by decide) ?_
                  refine WP.goto (pc := 127) hC dX4_firstFault_127 131 (by decide) ?_
                  refine WP.iadd (pc := 131) hC dX4_firstFault_131 ?_
                  refine WP.isn (lv' := [_, _, _, _, _, _, _]) (pc := 132) hC dX4_firstFault_132 rfl (by decide) rfl ?_
                  refine WP.iln (pc := 133) hC dX4_firstFault_133 rfl ?_
                  refine WP.il (pc := 134) hC dX4_firstFault_134 rfl ?_
                  refine WP.ifeq (pc := 136) hC dX4_firstFault_136 143 (by decide) (fun h136 => ?_) (fun h136 => absurd h136 (by decide))
                  refine WP.iconst (pc := 143) hC dX4_firstFault_143 0 (by decide) ?_
                  refine WP.iadd (pc := 144) hC dX4_firstFault_144 ?_
                  refine WP.isn (lv' := [_, _, _, _, _, _, _]) (pc := 145) hC dX4_firstFault_145 rfl (by decide) rfl ?_
                  refine WP.iln (pc := 146) hC dX4_firstFault_146 rfl ?_
                  refine WP.il (pc := 147) hC dX4_firstFault_147 rfl ?_
                  refine WP.ifeq (pc := 149) hC dX4_firstFault_149 156 (by decide) (fun h149 => absurd h149 (by decide)) (fun h149 => ?_)
                  refine WP.iconst (pc := 152) hC dX4_firstFault_152 4 (by decide) ?_
                  refine WP.goto (pc := 153) hC dX4_firstFault_153 157 (by decide) ?_
                  refine WP.iadd (pc := 157) hC dX4_firstFault_157 ?_
                  refine WP.isn (lv' := [_, _, _, _, _, _, _]) (pc := 158) hC dX4_firstFault_158 rfl (by decide) rfl ?_
                  refine WP.goto (pc := 159) hC dX4_firstFault_159 18 (by decide) ?_
                  first | exact ih _ _ _ _ _ _ (by omega) (by omega) (by omega) (by omega) hv | (simp only [nIp4, nIp2, nIp1, nIp0]; exact ih _ _ _ _ _ _ (by omega) (by omega) (by omega) (by omega) hv) | (exact absurd (h33.symm.trans h55) (by decide))
                · first | rw [if_neg h114] at hv | skip
                  refine WP.il (pc := 117) hC dX4_firstFault_117 rfl ?_
                  refine WP.iret (pc := 119) hC rfl dX4_firstFault_119 ?_ ?_ ?_
                  all_goals (first | rfl | exact hv)
              · rw [hlat] at h55
                have hs4 : s < 4 := (nI_ltI (b := 4) (by omega) (by decide)).mp (i_nle.mp h60)
                first | rw [if_pos (show F 2 j = 83 ∧ s < 4 from ⟨h55, hs4⟩)] at hv | skip
                refine WP.iconst (pc := 63) hC dX4_firstFault_63 1 (by decide) ?_
                refine WP.goto (pc := 64) hC dX4_firstFault_64 68 (by decide) ?_
                refine WP.is (lv' := [_, _, _, _, _, _, _]) (pc := 68) hC dX4_firstFault_68 rfl (by decide) rfl ?_
                refine WP.il (pc := 70) hC dX4_firstFault_70 rfl ?_
                refine WP.ifne (pc := 72) hC dX4_firstFault_72 82 (by decide) (fun h72 => ?_) (fun h72 => absurd h72 (by decide))
                refine WP.il (pc := 82) hC dX4_firstFault_82 rfl ?_
                refine WP.ifeq (pc := 84) hC dX4_firstFault_84 97 (by decide) (fun h84 => absurd h84 (by decide)) (fun h84 => ?_)
                refine WP.aln (pc := 87) hC dX4_firstFault_87 rfl ?_
                refine WP.iln (pc := 88) hC dX4_firstFault_88 rfl ?_
                refine WP.iconst (pc := 89) hC dX4_firstFault_89 1 (by decide) ?_
                refine WP.iadd (pc := 90) hC dX4_firstFault_90 ?_
                rw [nIp1]
                refine WP.callVI (pc := 91) hC dX4_firstFault_91 (k_X4_readerFault _ F L n (j + 1) hn (by omega)) ml_X4_23 rfl rfl (by decide) rfl (Nat.le_of_ble_eq_true rfl) ⟨by decide, by decide⟩ ?_
                refine WP.goto (pc := 94) hC dX4_firstFault_94 108 (by decide) ?_
                refine WP.is (lv' := [_, _, _, _, _, _, _]) (pc := 108) hC dX4_firstFault_108 rfl (by decide) rfl ?_
                refine WP.il (pc := 110) hC dX4_firstFault_110 rfl ?_
                refine WP.bipush (pc := 112) hC dX4_firstFault_112 (-9) (by decide) ?_
                refine WP.iceq (pc := 114) hC dX4_firstFault_114 120 (by decide) (fun h114 => ?_) (fun h114 => ?_)
                · first | rw [if_pos h114] at hv | skip
                  refine WP.iln (pc := 120) hC dX4_firstFault_120 rfl ?_
                  refine WP.il (pc := 121) hC dX4_firstFault_121 rfl ?_
                  refine WP.ifeq (pc := 123) hC dX4_firstFault_123 130 (by decide) (fun h123 => absurd h123 (by decide)) (fun h123 => ?_)
                  refine WP.iconst (pc := 126) hC dX4_firstFault_126 1 (by decide) ?_
                  refine WP.goto (pc := 127) hC dX4_firstFault_127 131 (by decide) ?_
                  refine WP.iadd (pc := 131) hC dX4_firstFault_131 ?_
                  refine WP.isn (lv' := [_, _, _, _, _, _, _]) (pc := 132) hC dX4_firstFault_132 rfl (by decide) rfl ?_
                  refine WP.iln (pc := 133) hC dX4_firstFault_133 rfl ?_
                  refine WP.il (pc := 134) hC dX4_firstFault_134 rfl ?_
                  refine WP.ifeq (pc := 136) hC dX4_firstFault_136 143 (by decide) (fun h136 => absurd h136 (by decide)) (fun h136 => ?_)
                  refine WP.iconst (pc := 139) hC dX4_firstFault_139 1 (by decide) ?_
                  refine WP.goto (pc := 140) hC dX4_firstFault_140 144 (by decide) ?_
                  refine WP.iadd (pc := 144) hC dX4_firstFault_144 ?_
                  refine WP.isn (lv' := [_, _, _, _, _, _, _]) (pc := 145) hC dX4_firstFault_145 rfl (by decide) rfl ?_
                  refine WP.iln (pc := 146) hC dX4_firstFault_146 rfl ?_
                  refine WP.il (pc := 147) hC dX4_firstFault_147 rfl ?_
                  refine WP.ifeq (pc := 149) hC dX4_firstFault_149 156 (by decide) (fun h149 => absurd h149 (by decide)) (fun h149 => ?_)
                  refine WP.iconst (pc := 152) hC dX4_firstFault_152 4 (by decide) ?_
                  refine WP.goto (pc := 153) hC dX4_firstFault_153 157 (by decide) ?_
                  refine WP.iadd (pc := 157) hC dX4_firstFault_157 ?_
                  refine WP.isn (lv' := [_, _, _, _, _, _, _]) (pc := 158) hC dX4_firstFault_158 rfl (by decide) rfl ?_
                  refine WP.goto (pc := 159) hC dX4_firstFault_159 18 (by decide) ?_
                  first | exact ih _ _ _ _ _ _ (by omega) (by omega) (by omega) (by omega) hv | (simp only [nIp4, nIp2, nIp1, nIp0]; exact ih _ _ _ _ _ _ (by omega) (by omega) (by omega) (by omega) hv) | (exact absurd (h33.symm.trans h55) (by decide))
                · first | rw [if_neg h114] at hv | skip
                  refine WP.il (pc := 117) hC dX4_firstFault_117 rfl ?_
                  refine WP.iret (pc := 119) hC rfl dX4_firstFault_119 ?_ ?_ ?_
                  all_goals (first | rfl | exact hv)
  refine WP.aln (pc := 0) hC dX4_firstFault_0 rfl ?_
  refine WP.iconst (pc := 1) hC dX4_firstFault_1 0 (by decide) ?_
  refine WP.callVI (pc := 2) hC dX4_firstFault_2 (k_X4_letterAt _ F L n 0 hn (by decide)) ml_X4_19 rfl rfl (by decide) rfl (Nat.le_of_ble_eq_true rfl) ⟨by decide, by decide⟩ ?_
  refine WP.bipush (pc := 5) hC dX4_firstFault_5 69 (by decide) ?_
  refine WP.iceq (pc := 7) hC dX4_firstFault_7 12 (by decide) (fun h7 => ?_) (fun h7 => ?_)
  · refine WP.iconst (pc := 12) hC dX4_firstFault_12 0 (by decide) ?_
    refine WP.isn (lv' := [_, _, _, _, _, _, _]) (pc := 13) hC dX4_firstFault_13 rfl (by decide) rfl ?_
    refine WP.iconst (pc := 14) hC dX4_firstFault_14 0 (by decide) ?_
    refine WP.isn (lv' := [_, _, _, _, _, _, _]) (pc := 15) hC dX4_firstFault_15 rfl (by decide) rfl ?_
    refine WP.iconst (pc := 16) hC dX4_firstFault_16 1 (by decide) ?_
    refine WP.isn (lv' := [_, _, _, _, _, _, _]) (pc := 17) hC dX4_firstFault_17 rfl (by decide) rfl ?_
    exact loop 36 1 0 0 _ _ _ (by have := hn.2; omega) (by decide) (by decide) (by decide) (by unfold faultN; rw [if_pos h7])
  · refine WP.iconst (pc := 10) hC dX4_firstFault_10 0 (by decide) ?_
    refine WP.iret (pc := 11) hC rfl dX4_firstFault_11 ?_ ?_ ?_
    all_goals (first | rfl | (unfold faultN; simp [h7]; done))
