/-! ===== NewRaysModel: small methods ===== -/
theorem lgc_lt (a b : Int64) : lg_cmp a b < 0 ↔ ¬ b ≤ a := by
  rw [← lg_cmp_ge a b]
  exact ⟨fun h => i_nle.mpr h, fun h => i_nle.mp h⟩
theorem lgc_gt (a b : Int64) : 0 < lg_cmp a b ↔ ¬ a ≤ b := by
  unfold lg_cmp
  rw [Int64.le_iff_toInt_le]
  by_cases h : a > b
  · rw [if_pos h]
    rw [gt_iff_lt, Int64.lt_iff_toInt_lt] at h
    exact ⟨fun _ => by omega, fun _ => by decide⟩
  · rw [if_neg h]
    rw [gt_iff_lt, Int64.lt_iff_toInt_lt] at h
    constructor
    · intro q
      exfalso
      by_cases e : a = b
      · rw [if_pos e] at q
        exact absurd q (by decide)
      · rw [if_neg e] at q
        exact absurd q (by decide)
    · intro q
      omega
def inL (a b c : Int64) : Bool := decide (b ≤ a) && decide (a ≤ c)
theorem wide_le (a b : Int32) : a.toInt64 ≤ b.toInt64 ↔ a ≤ b := by rw [Int64.le_iff_toInt_le, i_le, Int32.toInt_toInt64, Int32.toInt_toInt64]
theorem inL_w (a b c : Int32) : inL a.toInt64 b.toInt64 c.toInt64 = (decide (b ≤ a) && decide (a ≤ c)) := by
  unfold inL
  rw [decide_eq_decide.mpr (wide_le b a), decide_eq_decide.mpr (wide_le a c)]
theorem sub1_le {r : Int32} {n : Nat} (hn : n ≤ 5) (h0 : 0 ≤ r) : r ≤ nI n - 1 ↔ r < nI n := by
  obtain ⟨j, hj, rfl⟩ := nI_of (x := r) (i_nlt.mpr h0)
  rw [nI_ltI hj (by omega)]
  rcases Nat.eq_zero_or_pos n with e | e
  · subst e
    constructor
    · intro q
      rw [show nI 0 - 1 = -1 from by decide, i_le, nI_toInt hj] at q
      have : (-1 : Int32).toInt = -1 := by decide
      omega
    · intro q
      omega
  · rw [show nI n - 1 = nI (n - 1) from pk_sub (b := 1) e, nI_leI hj (by omega)]
    omega
theorem in_has {r : Int32} {n : Nat} (hn : n ≤ 5) : inL r.toInt64 0 (nI n - 1).toInt64 = hasB r n := by
  rw [show (0 : Int64) = (0 : Int32).toInt64 from by decide, inL_w]
  unfold hasB
  by_cases h : 0 ≤ r
  · simp only [h, decide_true, Bool.true_and]
    rw [decide_eq_decide.mpr (sub1_le hn h)]
  · simp [h]
def MR (G : FF) (nr ns : Nat) : Prop := G 0 0 = nI nr ∧ G 0 1 = nI ns ∧ nr ≤ 5 ∧ ns ≤ 4
def hasT (m k : Int32) : Bool := decide ((m >>> (k &&& 31)) &&& 1 = 1)
def onI (m : Int32) : Nat → Int32
  | 0 => 0
  | k + 1 => onI m k + ((m >>> (nI k &&& 31)) &&& 1)
def seesM (k e lit rd : Int32) (t : Bool) : Int32 := if (if k = 2 then rd / 2 else 0) < lit + (if t = true then (if k = 1 ∧ 0 < e then e + 2 else e) else 0) then lit + (if t = true then (if k = 1 ∧ 0 < e then e + 2 else e) else 0) - (if k = 2 then rd / 2 else 0) else 0
def brM (G : FF) (v j i : Nat) : Int32 := seesM (G 3 i) (G 1 i) (lits (tru (G 5 (9 * v + 7))) (G 4 j)) (G 5 (9 * v + i)) (tru (G 5 (9 * v + 8)))
def sayM (G : FF) (v j i : Nat) : Bool := saysB (G 3 i) (G 2 i) (brM G v j i)
def orM (y : Bool) (a b : Int32) : Int32 := if y = true then a ||| b else a &&& (b ^^^ (-1))
def rdM (G : FF) (v i j : Nat) (y : Bool) : FF := up2 (up2 (up2 G 5 (9 * v + 5) (orM y (G 5 (9 * v + 5)) (ppr i j))) 5 (9 * v + 6) (orM (!y) (G 5 (9 * v + 6)) (ppr i j))) 5 (9 * v + i) (G 5 (9 * v + i) + (if 9 ≤ G 5 (9 * v + i) then 0 else 1))

set_option maxHeartbeats 4000000 in
theorem k_X6_in (l : Launch) (F : FF) (L : Int64) (wd : WD) (a b c : Int64) : CI l yX6_in cX6_in 6 (some .boolean) (rmx 0 0) wd [.long a, .long b, .long c] F L (b2 (inL a b c)) F L := by
  refine mkI [some (.long a), none, some (.long b), none, some (.long c), none] 0 (by decide) rfl (Nat.le_of_ble_eq_true rfl) ?_
  intro x d hx hC
  subst hx
  have hC : Cx x cX6_in 6 RX6 (some .boolean) (rmx 0 0) wd d := hC
  refine WP.lln (pc := 0) hC dX6_in_0 rfl ?_
  refine WP.lln (pc := 1) hC dX6_in_1 rfl ?_
  refine WP.lcmp (pc := 2) hC dX6_in_2 ?_
  refine WP.iflt (pc := 3) hC dX6_in_3 17 (by decide) (fun h3 => ?_) (fun h3 => ?_)
  · refine WP.iconst (pc := 17) hC dX6_in_17 0 (by decide) ?_
    refine WP.zret (pc := 18) hC rfl (by first | exact Or.inl rfl | exact Or.inr rfl | exact b2_01 _) dX6_in_18 ?_ ?_ ?_
    all_goals (first | rfl | (rw [lgc_lt, Decidable.not_not] at h3; rw [lgc_gt, Decidable.not_not] at h10; simp [inL, b2, h3, h10]; done) | (rw [lgc_gt] at h10; simp [inL, b2, h10]; done) | (rw [lgc_lt] at h3; simp [inL, b2, h3]; done))
  · refine WP.lln (pc := 6) hC dX6_in_6 rfl ?_
    refine WP.ll (pc := 7) hC dX6_in_7 rfl ?_
    refine WP.lcmp (pc := 9) hC dX6_in_9 ?_
    refine WP.ifgt (pc := 10) hC dX6_in_10 17 (by decide) (fun h10 => ?_) (fun h10 => ?_)
    · refine WP.iconst (pc := 17) hC dX6_in_17 0 (by decide) ?_
      refine WP.zret (pc := 18) hC rfl (by first | exact Or.inl rfl | exact Or.inr rfl | exact b2_01 _) dX6_in_18 ?_ ?_ ?_
      all_goals (first | rfl | (rw [lgc_lt, Decidable.not_not] at h3; rw [lgc_gt, Decidable.not_not] at h10; simp [inL, b2, h3, h10]; done) | (rw [lgc_gt] at h10; simp [inL, b2, h10]; done) | (rw [lgc_lt] at h3; simp [inL, b2, h3]; done))
    · refine WP.iconst (pc := 13) hC dX6_in_13 1 (by decide) ?_
      refine WP.goto (pc := 14) hC dX6_in_14 18 (by decide) ?_
      refine WP.zret (pc := 18) hC rfl (by first | exact Or.inl rfl | exact Or.inr rfl | exact b2_01 _) dX6_in_18 ?_ ?_ ?_
      all_goals (first | rfl | (rw [lgc_lt, Decidable.not_not] at h3; rw [lgc_gt, Decidable.not_not] at h10; simp [inL, b2, h3, h10]; done) | (rw [lgc_gt] at h10; simp [inL, b2, h10]; done) | (rw [lgc_lt] at h3; simp [inL, b2, h3]; done))
set_option maxHeartbeats 4000000 in
theorem k_X6_has (l : Launch) (F : FF) (L : Int64) (wd : WD) (m k : Int32) : CI l yX6_has cX6_has 2 (some .boolean) (rmx 0 0) wd [.int m, .int k] F L (b2 (hasT m k)) F L := by
  refine mkI [some (.int m), some (.int k)] 0 (by decide) rfl (Nat.le_of_ble_eq_true rfl) ?_
  intro x d hx hC
  subst hx
  have hC : Cx x cX6_has 2 RX6 (some .boolean) (rmx 0 0) wd d := hC
  refine WP.iln (pc := 0) hC dX6_has_0 rfl ?_
  refine WP.iln (pc := 1) hC dX6_has_1 rfl ?_
  refine WP.ishr (pc := 2) hC dX6_has_2 ?_
  refine WP.iconst (pc := 3) hC dX6_has_3 1 (by decide) ?_
  refine WP.iand (pc := 4) hC dX6_has_4 ?_
  refine WP.iconst (pc := 5) hC dX6_has_5 1 (by decide) ?_
  refine WP.icne (pc := 6) hC dX6_has_6 13 (by decide) (fun h6 => ?_) (fun h6 => ?_)
  · refine WP.iconst (pc := 13) hC dX6_has_13 0 (by decide) ?_
    refine WP.zret (pc := 14) hC rfl (by first | exact Or.inl rfl | exact Or.inr rfl | exact b2_01 _) dX6_has_14 ?_ ?_ ?_
    all_goals (first | rfl | (simp [hasT, b2, h6]; done))
  · refine WP.iconst (pc := 9) hC dX6_has_9 1 (by decide) ?_
    refine WP.goto (pc := 10) hC dX6_has_10 14 (by decide) ?_
    refine WP.zret (pc := 14) hC rfl (by first | exact Or.inl rfl | exact Or.inr rfl | exact b2_01 _) dX6_has_14 ?_ ?_ ?_
    all_goals (first | rfl | (simp [hasT, b2, h6]; done))
set_option maxHeartbeats 4000000 in
theorem k_X6_ones (l : Launch) (F : FF) (L : Int64) (wd : WD) (m : Int32) : CI l yX6_ones cX6_ones 3 (some .int) (rmx 0 0) wd [.int m] F L (onI m 20) F L := by
  refine mkI [some (.int m), none, none] 2 (by decide) rfl (Nat.le_of_ble_eq_true rfl) ?_
  intro x d hx hC
  subst hx
  have hC : Cx x cX6_ones 3 RX6 (some .int) (rmx 0 0) wd d := hC
  have loop : ∀ k, k ≤ 20 → WP x 3 wd d (QI x wd d (onI m 20) F L) 4 [some (.int m), some (.int (onI m k)), some (.int (nI k))] [] F L := by
    refine loop_c (n := 20) (P := fun k => WP x 3 wd d (QI x wd d (onI m 20) F L) 4 [some (.int m), some (.int (onI m k)), some (.int (nI k))] [] F L) ?_
    intro k hk0 ih
    refine WP.iln (pc := 4) hC dX6_ones_4 rfl ?_
    refine WP.bipush (pc := 5) hC dX6_ones_5 20 (by decide) ?_
    refine WP.icge (pc := 7) hC dX6_ones_7 24 (by decide) (fun h7 => ?_) (fun h7 => ?_)
    · have hk9 : k = 20 := by
        have := (nI_leI (a := 20) (by decide) (by omega)).mp h7
        omega
      subst hk9
      refine WP.iln (pc := 24) hC dX6_ones_24 rfl ?_
      refine WP.iret (pc := 25) hC rfl dX6_ones_25 ?_ ?_ ?_
      all_goals (rfl)
    · have hk : k < 20 := (nI_ltI (b := 20) (by omega) (by decide)).mp (i_nle.mp h7)
      have hv := ih hk
      refine WP.iln (pc := 10) hC dX6_ones_10 rfl ?_
      refine WP.iln (pc := 11) hC dX6_ones_11 rfl ?_
      refine WP.iln (pc := 12) hC dX6_ones_12 rfl ?_
      refine WP.ishr (pc := 13) hC dX6_ones_13 ?_
      refine WP.iconst (pc := 14) hC dX6_ones_14 1 (by decide) ?_
      refine WP.iand (pc := 15) hC dX6_ones_15 ?_
      refine WP.iadd (pc := 16) hC dX6_ones_16 ?_
      refine WP.isn (lv' := [_, _, _]) (pc := 17) hC dX6_ones_17 rfl (by decide) rfl ?_
      refine WP.iinc (lv' := [_, _, _]) (pc := 18) hC dX6_ones_18 rfl (_ + 1) rfl rfl (by decide) rfl ?_
      refine WP.goto (pc := 21) hC dX6_ones_21 4 (by decide) ?_
      rw [nIp1]
      exact hv
  refine WP.iconst (pc := 0) hC dX6_ones_0 0 (by decide) ?_
  refine WP.isn (lv' := [_, _, _]) (pc := 1) hC dX6_ones_1 rfl (by decide) rfl ?_
  refine WP.iconst (pc := 2) hC dX6_ones_2 0 (by decide) ?_
  refine WP.isn (lv' := [_, _, _]) (pc := 3) hC dX6_ones_3 rfl (by decide) rfl ?_
  exact loop 0 (by decide)
set_option maxHeartbeats 4000000 in
theorem k_X6_isReader (l : Launch) (F : FF) (L : Int64) (nr ns : Nat) (r : Int32) (hM : MR F nr ns) : CI l yX6_isReader cX6_isReader 2 (some .boolean) (rmx 1 25) wM [.ref 0, .int r] F L (b2 (hasB r nr)) F L := by
  refine mkI [some (.ref 0), some (.int r)] 0 (by decide) rfl (Nat.le_of_ble_eq_true rfl) ?_
  intro x d hx hC
  subst hx
  have hC : Cx x cX6_isReader 2 RX6 (some .boolean) (rmx 1 25) wM d := hC
  refine WP.iln (pc := 0) hC dX6_isReader_0 rfl ?_
  refine WP.i2l (pc := 1) hC dX6_isReader_1 ?_
  refine WP.lconst (pc := 2) hC dX6_isReader_2 0 (by decide) ?_
  refine WP.aln (pc := 3) hC dX6_isReader_3 rfl ?_
  refine WP.gf (pc := 4) hC dX6_isReader_4 fl_X6_86 (by decide) rfl rfl ?_
  refine WP.iconst (pc := 7) hC dX6_isReader_7 1 (by decide) ?_
  refine WP.isub (pc := 8) hC dX6_isReader_8 ?_
  refine WP.i2l (pc := 9) hC dX6_isReader_9 ?_
  refine WP.callSI (pc := 10) hC dX6_isReader_10 (k_X6_in _ F L wM _ _ _) ml_X6_58 rfl rfl (Nat.le_of_ble_eq_true rfl) ⟨by decide, by decide⟩ ?_
  rw [hM.1, in_has hM.2.2.1]
  refine WP.zret (pc := 13) hC rfl (by first | exact Or.inl rfl | exact Or.inr rfl | exact b2_01 _) dX6_isReader_13 ?_ ?_ ?_
  all_goals (rfl)
set_option maxHeartbeats 4000000 in
theorem k_X6_isSample (l : Launch) (F : FF) (L : Int64) (nr ns : Nat) (r : Int32) (hM : MR F nr ns) : CI l yX6_isSample cX6_isSample 2 (some .boolean) (rmx 1 25) wM [.ref 0, .int r] F L (b2 (hasB r ns)) F L := by
  refine mkI [some (.ref 0), some (.int r)] 0 (by decide) rfl (Nat.le_of_ble_eq_true rfl) ?_
  intro x d hx hC
  subst hx
  have hC : Cx x cX6_isSample 2 RX6 (some .boolean) (rmx 1 25) wM d := hC
  refine WP.iln (pc := 0) hC dX6_isSample_0 rfl ?_
  refine WP.i2l (pc := 1) hC dX6_isSample_1 ?_
  refine WP.lconst (pc := 2) hC dX6_isSample_2 0 (by decide) ?_
  refine WP.aln (pc := 3) hC dX6_isSample_3 rfl ?_
  refine WP.gf (pc := 4) hC dX6_isSample_4 fl_X6_89 (by decide) rfl rfl ?_
  refine WP.iconst (pc := 7) hC dX6_isSample_7 1 (by decide) ?_
  refine WP.isub (pc := 8) hC dX6_isSample_8 ?_
  refine WP.i2l (pc := 9) hC dX6_isSample_9 ?_
  refine WP.callSI (pc := 10) hC dX6_isSample_10 (k_X6_in _ F L wM _ _ _) ml_X6_58 rfl rfl (Nat.le_of_ble_eq_true rfl) ⟨by decide, by decide⟩ ?_
  rw [hM.2.1, in_has (by have := hM.2.2.2; omega)]
  refine WP.zret (pc := 13) hC rfl (by first | exact Or.inl rfl | exact Or.inr rfl | exact b2_01 _) dX6_isSample_13 ?_ ?_ ?_
  all_goals (rfl)
set_option maxHeartbeats 4000000 in
theorem k_X6_brightFor (l : Launch) (F : FF) (L : Int64) (i : Nat) (e lit rd : Int32) (t : Bool) (hi : i < 5) : CI l yX6_brightFor cX6_brightFor 9 (some .int) (rmx 0 0) wM [.ref 0, .int (nI i), .int e, .int lit, .int (b2 t), .int rd] F L (seesM (F 3 i) e lit rd t) F L := by
  refine mkI [some (.ref 0), some (.int (nI i)), some (.int e), some (.int lit), some (.int (b2 t)), some (.int rd), none, none, none] 3 (by decide) rfl (Nat.le_of_ble_eq_true rfl) ?_
  intro x d hx hC
  subst hx
  have hC : Cx x cX6_brightFor 9 RX6 (some .int) (rmx 0 0) wM d := hC
  refine WP.aln (pc := 0) hC dX6_brightFor_0 rfl ?_
  refine WP.gf (pc := 1) hC dX6_brightFor_1 fl_X6_16 (by decide) rfl rfl ?_
  refine WP.iln (pc := 4) hC dX6_brightFor_4 rfl ?_
  refine WP.ial (pc := 5) hC dX6_brightFor_5 i rfl hi (by decide) rfl (by decide) ?_
  refine WP.iconst (pc := 6) hC dX6_brightFor_6 1 (by decide) ?_
  refine WP.icne (pc := 7) hC dX6_brightFor_7 20 (by decide) (fun h7 => ?_) (fun h7 => ?_)
  · refine WP.iln (pc := 20) hC dX6_brightFor_20 rfl ?_
    refine WP.is (lv' := [_, _, _, _, _, _, _, _, _]) (pc := 21) hC dX6_brightFor_21 rfl (by decide) rfl ?_
    refine WP.iln (pc := 23) hC dX6_brightFor_23 rfl ?_
    refine WP.il (pc := 24) hC dX6_brightFor_24 rfl ?_
    refine WP.ifeq (pc := 26) hC dX6_brightFor_26 34 (by decide) (fun h26 => ?_) (fun h26 => ?_)
    · rw [b2_0] at h26
      refine WP.iconst (pc := 34) hC dX6_brightFor_34 0 (by decide) ?_
      refine WP.iadd (pc := 35) hC dX6_brightFor_35 ?_
      refine WP.is (lv' := [_, _, _, _, _, _, _, _, _]) (pc := 36) hC dX6_brightFor_36 rfl (by decide) rfl ?_
      refine WP.aln (pc := 38) hC dX6_brightFor_38 rfl ?_
      refine WP.gf (pc := 39) hC dX6_brightFor_39 fl_X6_16 (by decide) rfl rfl ?_
      refine WP.iln (pc := 42) hC dX6_brightFor_42 rfl ?_
      refine WP.ial (pc := 43) hC dX6_brightFor_43 i rfl hi (by decide) rfl (by decide) ?_
      refine WP.iconst (pc := 44) hC dX6_brightFor_44 2 (by decide) ?_
      refine WP.icne (pc := 45) hC dX6_brightFor_45 55 (by decide) (fun h45 => ?_) (fun h45 => ?_)
      · refine WP.iconst (pc := 55) hC dX6_brightFor_55 0 (by decide) ?_
        refine WP.is (lv' := [_, _, _, _, _, _, _, _, _]) (pc := 56) hC dX6_brightFor_56 rfl (by decide) rfl ?_
        refine WP.il (pc := 58) hC dX6_brightFor_58 rfl ?_
        refine WP.il (pc := 60) hC dX6_brightFor_60 rfl ?_
        refine WP.icle (pc := 62) hC dX6_brightFor_62 73 (by decide) (fun h62 => ?_) (fun h62 => ?_)
        · refine WP.iconst (pc := 73) hC dX6_brightFor_73 0 (by decide) ?_
          refine WP.iret (pc := 74) hC rfl dX6_brightFor_74 ?_ ?_ ?_
          all_goals (first | rfl | exact absurd (h7.symm.trans h45) (by decide) | ((try simp only [Int32.add_zero] at h62); first | (have h11 := i_nlt.mpr h11; first | (have h62 := i_nlt.mpr h62; simp [seesM, h7, h11, h26, h45, h62]; done) | (have h62 := i_nle.mp h62; simp [seesM, h7, h11, h26, h45, h62]; done)) | (have h11 := i_nle.mp h11; first | (have h62 := i_nlt.mpr h62; simp [seesM, h7, h11, h26, h45, h62]; done) | (have h62 := i_nle.mp h62; simp [seesM, h7, h11, h26, h45, h62]; done)) | (have h62 := i_nlt.mpr h62; simp [seesM, h7, h26, h45, h62]; done) | (have h62 := i_nle.mp h62; simp [seesM, h7, h26, h45, h62]; done)))
        · refine WP.il (pc := 65) hC dX6_brightFor_65 rfl ?_
          refine WP.il (pc := 67) hC dX6_brightFor_67 rfl ?_
          refine WP.isub (pc := 69) hC dX6_brightFor_69 ?_
          refine WP.goto (pc := 70) hC dX6_brightFor_70 74 (by decide) ?_
          refine WP.iret (pc := 74) hC rfl dX6_brightFor_74 ?_ ?_ ?_
          all_goals (first | rfl | exact absurd (h7.symm.trans h45) (by decide) | ((try simp only [Int32.add_zero] at h62); first | (have h11 := i_nlt.mpr h11; first | (have h62 := i_nlt.mpr h62; simp [seesM, h7, h11, h26, h45, h62]; done) | (have h62 := i_nle.mp h62; simp [seesM, h7, h11, h26, h45, h62]; done)) | (have h11 := i_nle.mp h11; first | (have h62 := i_nlt.mpr h62; simp [seesM, h7, h11, h26, h45, h62]; done) | (have h62 := i_nle.mp h62; simp [seesM, h7, h11, h26, h45, h62]; done)) | (have h62 := i_nlt.mpr h62; simp [seesM, h7, h26, h45, h62]; done) | (have h62 := i_nle.mp h62; simp [seesM, h7, h26, h45, h62]; done)))
      · refine WP.il (pc := 48) hC dX6_brightFor_48 rfl ?_
        refine WP.iconst (pc := 50) hC dX6_brightFor_50 2 (by decide) ?_
        refine WP.idiv (pc := 51) hC dX6_brightFor_51 (by decide) ?_
        refine WP.goto (pc := 52) hC dX6_brightFor_52 56 (by decide) ?_
        refine WP.is (lv' := [_, _, _, _, _, _, _, _, _]) (pc := 56) hC dX6_brightFor_56 rfl (by decide) rfl ?_
        refine WP.il (pc := 58) hC dX6_brightFor_58 rfl ?_
        refine WP.il (pc := 60) hC dX6_brightFor_60 rfl ?_
        refine WP.icle (pc := 62) hC dX6_brightFor_62 73 (by decide) (fun h62 => ?_) (fun h62 => ?_)
        · refine WP.iconst (pc := 73) hC dX6_brightFor_73 0 (by decide) ?_
          refine WP.iret (pc := 74) hC rfl dX6_brightFor_74 ?_ ?_ ?_
          all_goals (first | rfl | exact absurd (h7.symm.trans h45) (by decide) | ((try simp only [Int32.add_zero] at h62); first | (have h11 := i_nlt.mpr h11; first | (have h62 := i_nlt.mpr h62; simp [seesM, h7, h11, h26, h45, h62]; done) | (have h62 := i_nle.mp h62; simp [seesM, h7, h11, h26, h45, h62]; done)) | (have h11 := i_nle.mp h11; first | (have h62 := i_nlt.mpr h62; simp [seesM, h7, h11, h26, h45, h62]; done) | (have h62 := i_nle.mp h62; simp [seesM, h7, h11, h26, h45, h62]; done)) | (have h62 := i_nlt.mpr h62; simp [seesM, h7, h26, h45, h62]; done) | (have h62 := i_nle.mp h62; simp [seesM, h7, h26, h45, h62]; done)))
        · refine WP.il (pc := 65) hC dX6_brightFor_65 rfl ?_
          refine WP.il (pc := 67) hC dX6_brightFor_67 rfl ?_
          refine WP.isub (pc := 69) hC dX6_brightFor_69 ?_
          refine WP.goto (pc := 70) hC dX6_brightFor_70 74 (by decide) ?_
          refine WP.iret (pc := 74) hC rfl dX6_brightFor_74 ?_ ?_ ?_
          all_goals (first | rfl | exact absurd (h7.symm.trans h45) (by decide) | ((try simp only [Int32.add_zero] at h62); first | (have h11 := i_nlt.mpr h11; first | (have h62 := i_nlt.mpr h62; simp [seesM, h7, h11, h26, h45, h62]; done) | (have h62 := i_nle.mp h62; simp [seesM, h7, h11, h26, h45, h62]; done)) | (have h11 := i_nle.mp h11; first | (have h62 := i_nlt.mpr h62; simp [seesM, h7, h11, h26, h45, h62]; done) | (have h62 := i_nle.mp h62; simp [seesM, h7, h11, h26, h45, h62]; done)) | (have h62 := i_nlt.mpr h62; simp [seesM, h7, h26, h45, h62]; done) | (have h62 := i_nle.mp h62; simp [seesM, h7, h26, h45, h62]; done)))
    · rw [b2_n0] at h26
      refine WP.il (pc := 29) hC dX6_brightFor_29 rfl ?_
      refine WP.goto (pc := 31) hC dX6_brightFor_31 35 (by decide) ?_
      refine WP.iadd (pc := 35) hC dX6_brightFor_35 ?_
      refine WP.is (lv' := [_, _, _, _, _, _, _, _, _]) (pc := 36) hC dX6_brightFor_36 rfl (by decide) rfl ?_
      refine WP.aln (pc := 38) hC dX6_brightFor_38 rfl ?_
      refine WP.gf (pc := 39) hC dX6_brightFor_39 fl_X6_16 (by decide) rfl rfl ?_
      refine WP.iln (pc := 42) hC dX6_brightFor_42 rfl ?_
      refine WP.ial (pc := 43) hC dX6_brightFor_43 i rfl hi (by decide) rfl (by decide) ?_
      refine WP.iconst (pc := 44) hC dX6_brightFor_44 2 (by decide) ?_
      refine WP.icne (pc := 45) hC dX6_brightFor_45 55 (by decide) (fun h45 => ?_) (fun h45 => ?_)
      · refine WP.iconst (pc := 55) hC dX6_brightFor_55 0 (by decide) ?_
        refine WP.is (lv' := [_, _, _, _, _, _, _, _, _]) (pc := 56) hC dX6_brightFor_56 rfl (by decide) rfl ?_
        refine WP.il (pc := 58) hC dX6_brightFor_58 rfl ?_
        refine WP.il (pc := 60) hC dX6_brightFor_60 rfl ?_
        refine WP.icle (pc := 62) hC dX6_brightFor_62 73 (by decide) (fun h62 => ?_) (fun h62 => ?_)
        · refine WP.iconst (pc := 73) hC dX6_brightFor_73 0 (by decide) ?_
          refine WP.iret (pc := 74) hC rfl dX6_brightFor_74 ?_ ?_ ?_
          all_goals (first | rfl | exact absurd (h7.symm.trans h45) (by decide) | ((try simp only [Int32.add_zero] at h62); first | (have h11 := i_nlt.mpr h11; first | (have h62 := i_nlt.mpr h62; simp [seesM, h7, h11, h26, h45, h62]; done) | (have h62 := i_nle.mp h62; simp [seesM, h7, h11, h26, h45, h62]; done)) | (have h11 := i_nle.mp h11; first | (have h62 := i_nlt.mpr h62; simp [seesM, h7, h11, h26, h45, h62]; done) | (have h62 := i_nle.mp h62; simp [seesM, h7, h11, h26, h45, h62]; done)) | (have h62 := i_nlt.mpr h62; simp [seesM, h7, h26, h45, h62]; done) | (have h62 := i_nle.mp h62; simp [seesM, h7, h26, h45, h62]; done)))
        · refine WP.il (pc := 65) hC dX6_brightFor_65 rfl ?_
          refine WP.il (pc := 67) hC dX6_brightFor_67 rfl ?_
          refine WP.isub (pc := 69) hC dX6_brightFor_69 ?_
          refine WP.goto (pc := 70) hC dX6_brightFor_70 74 (by decide) ?_
          refine WP.iret (pc := 74) hC rfl dX6_brightFor_74 ?_ ?_ ?_
          all_goals (first | rfl | exact absurd (h7.symm.trans h45) (by decide) | ((try simp only [Int32.add_zero] at h62); first | (have h11 := i_nlt.mpr h11; first | (have h62 := i_nlt.mpr h62; simp [seesM, h7, h11, h26, h45, h62]; done) | (have h62 := i_nle.mp h62; simp [seesM, h7, h11, h26, h45, h62]; done)) | (have h11 := i_nle.mp h11; first | (have h62 := i_nlt.mpr h62; simp [seesM, h7, h11, h26, h45, h62]; done) | (have h62 := i_nle.mp h62; simp [seesM, h7, h11, h26, h45, h62]; done)) | (have h62 := i_nlt.mpr h62; simp [seesM, h7, h26, h45, h62]; done) | (have h62 := i_nle.mp h62; simp [seesM, h7, h26, h45, h62]; done)))
      · refine WP.il (pc := 48) hC dX6_brightFor_48 rfl ?_
        refine WP.iconst (pc := 50) hC dX6_brightFor_50 2 (by decide) ?_
        refine WP.idiv (pc := 51) hC dX6_brightFor_51 (by decide) ?_
        refine WP.goto (pc := 52) hC dX6_brightFor_52 56 (by decide) ?_
        refine WP.is (lv' := [_, _, _, _, _, _, _, _, _]) (pc := 56) hC dX6_brightFor_56 rfl (by decide) rfl ?_
        refine WP.il (pc := 58) hC dX6_brightFor_58 rfl ?_
        refine WP.il (pc := 60) hC dX6_brightFor_60 rfl ?_
        refine WP.icle (pc := 62) hC dX6_brightFor_62 73 (by decide) (fun h62 => ?_) (fun h62 => ?_)
        · refine WP.iconst (pc := 73) hC dX6_brightFor_73 0 (by decide) ?_
          refine WP.iret (pc := 74) hC rfl dX6_brightFor_74 ?_ ?_ ?_
          all_goals (first | rfl | exact absurd (h7.symm.trans h45) (by decide) | ((try simp only [Int32.add_zero] at h62); first | (have h11 := i_nlt.mpr h11; first | (have h62 := i_nlt.mpr h62; simp [seesM, h7, h11, h26, h45, h62]; done) | (have h62 := i_nle.mp h62; simp [seesM, h7, h11, h26, h45, h62]; done)) | (have h11 := i_nle.mp h11; first | (have h62 := i_nlt.mpr h62; simp [seesM, h7, h11, h26, h45, h62]; done) | (have h62 := i_nle.mp h62; simp [seesM, h7, h11, h26, h45, h62]; done)) | (have h62 := i_nlt.mpr h62; simp [seesM, h7, h26, h45, h62]; done) | (have h62 := i_nle.mp h62; simp [seesM, h7, h26, h45, h62]; done)))
        · refine WP.il (pc := 65) hC dX6_brightFor_65 rfl ?_
          refine WP.il (pc := 67) hC dX6_brightFor_67 rfl ?_
          refine WP.isub (pc := 69) hC dX6_brightFor_69 ?_
          refine WP.goto (pc := 70) hC dX6_brightFor_70 74 (by decide) ?_
          refine WP.iret (pc := 74) hC rfl dX6_brightFor_74 ?_ ?_ ?_
          all_goals (first | rfl | exact absurd (h7.symm.trans h45) (by decide) | ((try simp only [Int32.add_zero] at h62); first | (have h11 := i_nlt.mpr h11; first | (have h62 := i_nlt.mpr h62; simp [seesM, h7, h11, h26, h45, h62]; done) | (have h62 := i_nle.mp h62; simp [seesM, h7, h11, h26, h45, h62]; done)) | (have h11 := i_nle.mp h11; first | (have h62 := i_nlt.mpr h62; simp [seesM, h7, h11, h26, h45, h62]; done) | (have h62 := i_nle.mp h62; simp [seesM, h7, h11, h26, h45, h62]; done)) | (have h62 := i_nlt.mpr h62; simp [seesM, h7, h26, h45, h62]; done) | (have h62 := i_nle.mp h62; simp [seesM, h7, h26, h45, h62]; done)))
  · refine WP.iln (pc := 10) hC dX6_brightFor_10 rfl ?_
    refine WP.ifle (pc := 11) hC dX6_brightFor_11 20 (by decide) (fun h11 => ?_) (fun h11 => ?_)
    · refine WP.iln (pc := 20) hC dX6_brightFor_20 rfl ?_
      refine WP.is (lv' := [_, _, _, _, _, _, _, _, _]) (pc := 21) hC dX6_brightFor_21 rfl (by decide) rfl ?_
      refine WP.iln (pc := 23) hC dX6_brightFor_23 rfl ?_
      refine WP.il (pc := 24) hC dX6_brightFor_24 rfl ?_
      refine WP.ifeq (pc := 26) hC dX6_brightFor_26 34 (by decide) (fun h26 => ?_) (fun h26 => ?_)
      · rw [b2_0] at h26
        refine WP.iconst (pc := 34) hC dX6_brightFor_34 0 (by decide) ?_
        refine WP.iadd (pc := 35) hC dX6_brightFor_35 ?_
        refine WP.is (lv' := [_, _, _, _, _, _, _, _, _]) (pc := 36) hC dX6_brightFor_36 rfl (by decide) rfl ?_
        refine WP.aln (pc := 38) hC dX6_brightFor_38 rfl ?_
        refine WP.gf (pc := 39) hC dX6_brightFor_39 fl_X6_16 (by decide) rfl rfl ?_
        refine WP.iln (pc := 42) hC dX6_brightFor_42 rfl ?_
        refine WP.ial (pc := 43) hC dX6_brightFor_43 i rfl hi (by decide) rfl (by decide) ?_
        refine WP.iconst (pc := 44) hC dX6_brightFor_44 2 (by decide) ?_
        refine WP.icne (pc := 45) hC dX6_brightFor_45 55 (by decide) (fun h45 => ?_) (fun h45 => ?_)
        · refine WP.iconst (pc := 55) hC dX6_brightFor_55 0 (by decide) ?_
          refine WP.is (lv' := [_, _, _, _, _, _, _, _, _]) (pc := 56) hC dX6_brightFor_56 rfl (by decide) rfl ?_
          refine WP.il (pc := 58) hC dX6_brightFor_58 rfl ?_
          refine WP.il (pc := 60) hC dX6_brightFor_60 rfl ?_
          refine WP.icle (pc := 62) hC dX6_brightFor_62 73 (by decide) (fun h62 => ?_) (fun h62 => ?_)
          · refine WP.iconst (pc := 73) hC dX6_brightFor_73 0 (by decide) ?_
            refine WP.iret (pc := 74) hC rfl dX6_brightFor_74 ?_ ?_ ?_
            all_goals (first | rfl | exact absurd (h7.symm.trans h45) (by decide) | ((try simp only [Int32.add_zero] at h62); first | (have h11 := i_nlt.mpr h11; first | (have h62 := i_nlt.mpr h62; simp [seesM, h7, h11, h26, h45, h62]; done) | (have h62 := i_nle.mp h62; simp [seesM, h7, h11, h26, h45, h62]; done)) | (have h11 := i_nle.mp h11; first | (have h62 := i_nlt.mpr h62; simp [seesM, h7, h11, h26, h45, h62]; done) | (have h62 := i_nle.mp h62; simp [seesM, h7, h11, h26, h45, h62]; done)) | (have h62 := i_nlt.mpr h62; simp [seesM, h7, h26, h45, h62]; done) | (have h62 := i_nle.mp h62; simp [seesM, h7, h26, h45, h62]; done)))
          · refine WP.il (pc := 65) hC dX6_brightFor_65 rfl ?_
            refine WP.il (pc := 67) hC dX6_brightFor_67 rfl ?_
            refine WP.isub (pc := 69) hC dX6_brightFor_69 ?_
            refine WP.goto (pc := 70) hC dX6_brightFor_70 74 (by decide) ?_
            refine WP.iret (pc := 74) hC rfl dX6_brightFor_74 ?_ ?_ ?_
            all_goals (first | rfl | exact absurd (h7.symm.trans h45) (by decide) | ((try simp only [Int32.add_zero] at h62); first | (have h11 := i_nlt.mpr h11; first | (have h62 := i_nlt.mpr h62; simp [seesM, h7, h11, h26, h45, h62]; done) | (have h62 := i_nle.mp h62; simp [seesM, h7, h11, h26, h45, h62]; done)) | (have h11 := i_nle.mp h11; first | (have h62 := i_nlt.mpr h62; simp [seesM, h7, h11, h26, h45, h62]; done) | (have h62 := i_nle.mp h62; simp [seesM, h7, h11, h26, h45, h62]; done)) | (have h62 := i_nlt.mpr h62; simp [seesM, h7, h26, h45, h62]; done) | (have h62 := i_nle.mp h62; simp [seesM, h7, h26, h45, h62]; done)))
        · refine WP.il (pc := 48) hC dX6_brightFor_48 rfl ?_
          refine WP.iconst (pc := 50) hC dX6_brightFor_50 2 (by decide) ?_
          refine WP.idiv (pc := 51) hC dX6_brightFor_51 (by decide) ?_
          refine WP.goto (pc := 52) hC dX6_brightFor_52 56 (by decide) ?_
          refine WP.is (lv' := [_, _, _, _, _, _, _, _, _]) (pc := 56) hC dX6_brightFor_56 rfl (by decide) rfl ?_
          refine WP.il (pc := 58) hC dX6_brightFor_58 rfl ?_
          refine WP.il (pc := 60) hC dX6_brightFor_60 rfl ?_
          refine WP.icle (pc := 62) hC dX6_brightFor_62 73 (by decide) (fun h62 => ?_) (fun h62 => ?_)
          · refine WP.iconst (pc := 73) hC dX6_brightFor_73 0 (by decide) ?_
            refine WP.iret (pc := 74) hC rfl dX6_brightFor_74 ?_ ?_ ?_
            all_goals (first | rfl | exact absurd (h7.symm.trans h45) (by decide) | ((try simp only [Int32.add_zero] at h62); first | (have h11 := i_nlt.mpr h11; first | (have h62 := i_nlt.mpr h62; simp [seesM, h7, h11, h26, h45, h62]; done) | (have h62 := i_nle.mp h62; simp [seesM, h7, h11, h26, h45, h62]; done)) | (have h11 := i_nle.mp h11; first | (have h62 := i_nlt.mpr h62; simp [seesM, h7, h11, h26, h45, h62]; done) | (have h62 := i_nle.mp h62; simp [seesM, h7, h11, h26, h45, h62]; done)) | (have h62 := i_nlt.mpr h62; simp [seesM, h7, h26, h45, h62]; done) | (have h62 := i_nle.mp h62; simp [seesM, h7, h26, h45, h62]; done)))
          · refine WP.il (pc := 65) hC dX6_brightFor_65 rfl ?_
            refine WP.il (pc := 67) hC dX6_brightFor_67 rfl ?_
            refine WP.isub (pc := 69) hC dX6_brightFor_69 ?_
            refine WP.goto (pc := 70) hC dX6_brightFor_70 74 (by decide) ?_
            refine WP.iret (pc := 74) hC rfl dX6_brightFor_74 ?_ ?_ ?_
            all_goals (first | rfl | exact absurd (h7.symm.trans h45) (by decide) | ((try simp only [Int32.add_zero] at h62); first | (have h11 := i_nlt.mpr h11; first | (have h62 := i_nlt.mpr h62; simp [seesM, h7, h11, h26, h45, h62]; done) | (have h62 := i_nle.mp h62; simp [seesM, h7, h11, h26, h45, h62]; done)) | (have h11 := i_nle.mp h11; first | (have h62 := i_nlt.mpr h62; simp [seesM, h7, h11, h26, h45, h62]; done) | (have h62 := i_nle.mp h62; simp [seesM, h7, h11, h26, h45, h62]; done)) | (have h62 := i_nlt.mpr h62; simp [seesM, h7, h26, h45, h62]; done) | (have h62 := i_nle.mp h62; simp [seesM, h7, h26, h45, h62]; done)))
      · rw [b2_n0] at h26
        refine WP.il (pc := 29) hC dX6_brightFor_29 rfl ?_
        refine WP.goto (pc := 31) hC dX6_brightFor_31 35 (by decide) ?_
        refine WP.iadd (pc := 35) hC dX6_brightFor_35 ?_
        refine WP.is (lv' := [_, _, _, _, _, _, _, _, _]) (pc := 36) hC dX6_brightFor_36 rfl (by decide) rfl ?_
        refine WP.aln (pc := 38) hC dX6_brightFor_38 rfl ?_
        refine WP.gf (pc := 39) hC dX6_brightFor_39 fl_X6_16 (by decide) rfl rfl ?_
        refine WP.iln (pc := 42) hC dX6_brightFor_42 rfl ?_
        refine WP.ial (pc := 43) hC dX6_brightFor_43 i rfl hi (by decide) rfl (by decide) ?_
        refine WP.iconst (pc := 44) hC dX6_brightFor_44 2 (by decide) ?_
        refine WP.icne (pc := 45) hC dX6_brightFor_45 55 (by decide) (fun h45 => ?_) (fun h45 => ?_)
        · refine WP.iconst (pc := 55) hC dX6_brightFor_55 0 (by decide) ?_
          refine WP.is (lv' := [_, _, _, _, _, _, _, _, _]) (pc := 56) hC dX6_brightFor_56 rfl (by decide) rfl ?_
          refine WP.il (pc := 58) hC dX6_brightFor_58 rfl ?_
          refine WP.il (pc := 60) hC dX6_brightFor_60 rfl ?_
          refine WP.icle (pc := 62) hC dX6_brightFor_62 73 (by decide) (fun h62 => ?_) (fun h62 => ?_)
          · refine WP.iconst (pc := 73) hC dX6_brightFor_73 0 (by decide) ?_
            refine WP.iret (pc := 74) hC rfl dX6_brightFor_74 ?_ ?_ ?_
            all_goals (first | rfl | exact absurd (h7.symm.trans h45) (by decide) | ((try simp only [Int32.add_zero] at h62); first | (have h11 := i_nlt.mpr h11; first | (have h62 := i_nlt.mpr h62; simp [seesM, h7, h11, h26, h45, h62]; done) | (have h62 := i_nle.mp h62; simp [seesM, h7, h11, h26, h45, h62]; done)) | (have h11 := i_nle.mp h11; first | (have h62 := i_nlt.mpr h62; simp [seesM, h7, h11, h26, h45, h62]; done) | (have h62 := i_nle.mp h62; simp [seesM, h7, h11, h26, h45, h62]; done)) | (have h62 := i_nlt.mpr h62; simp [seesM, h7, h26, h45, h62]; done) | (have h62 := i_nle.mp h62; simp [seesM, h7, h26, h45, h62]; done)))
          · refine WP.il (pc := 65) hC dX6_brightFor_65 rfl ?_
            refine WP.il (pc := 67) hC dX6_brightFor_67 rfl ?_
            refine WP.isub (pc := 69) hC dX6_brightFor_69 ?_
            refine WP.goto (pc := 70) hC dX6_brightFor_70 74 (by decide) ?_
            refine WP.iret (pc := 74) hC rfl dX6_brightFor_74 ?_ ?_ ?_
            all_goals (first | rfl | exact absurd (h7.symm.trans h45) (by decide) | ((try simp only [Int32.add_zero] at h62); first | (have h11 := i_nlt.mpr h11; first | (have h62 := i_nlt.mpr h62; simp [seesM, h7, h11, h26, h45, h62]; done) | (have h62 := i_nle.mp h62; simp [seesM, h7, h11, h26, h45, h62]; done)) | (have h11 := i_nle.mp h11; first | (have h62 := i_nlt.mpr h62; simp [seesM, h7, h11, h26, h45, h62]; done) | (have h62 := i_nle.mp h62; simp [seesM, h7, h11, h26, h45, h62]; done)) | (have h62 := i_nlt.mpr h62; simp [seesM, h7, h26, h45, h62]; done) | (have h62 := i_nle.mp h62; simp [seesM, h7, h26, h45, h62]; done)))
        · refine WP.il (pc := 48) hC dX6_brightFor_48 rfl ?_
          refine WP.iconst (pc := 50) hC dX6_brightFor_50 2 (by decide) ?_
          refine WP.idiv (pc := 51) hC dX6_brightFor_51 (by decide) ?_
          refine WP.goto (pc := 52) hC dX6_brightFor_52 56 (by decide) ?_
          refine WP.is (lv' := [_, _, _, _, _, _, _, _, _]) (pc := 56) hC dX6_brightFor_56 rfl (by decide) rfl ?_
          refine WP.il (pc := 58) hC dX6_brightFor_58 rfl ?_
          refine WP.il (pc := 60) hC dX6_brightFor_60 rfl ?_
          refine WP.icle (pc := 62) hC dX6_brightFor_62 73 (by decide) (fun h62 => ?_) (fun h62 => ?_)
          · refine WP.iconst (pc := 73) hC dX6_brightFor_73 0 (by decide) ?_
            refine WP.iret (pc := 74) hC rfl dX6_brightFor_74 ?_ ?_ ?_
            all_goals (first | rfl | exact absurd (h7.symm.trans h45) (by decide) | ((try simp only [Int32.add_zero] at h62); first | (have h11 := i_nlt.mpr h11; first | (have h62 := i_nlt.mpr h62; simp [seesM, h7, h11, h26, h45, h62]; done) | (have h62 := i_nle.mp h62; simp [seesM, h7, h11, h26, h45, h62]; done)) | (have h11 := i_nle.mp h11; first | (have h62 := i_nlt.mpr h62; simp [seesM, h7, h11, h26, h45, h62]; done) | (have h62 := i_nle.mp h62; simp [seesM, h7, h11, h26, h45, h62]; done)) | (have h62 := i_nlt.mpr h62; simp [seesM, h7, h26, h45, h62]; done) | (have h62 := i_nle.mp h62; simp [seesM, h7, h26, h45, h62]; done)))
          · refine WP.il (pc := 65) hC dX6_brightFor_65 rfl ?_
            refine WP.il (pc := 67) hC dX6_brightFor_67 rfl ?_
            refine WP.isub (pc := 69) hC dX6_brightFor_69 ?_
            refine WP.goto (pc := 70) hC dX6_brightFor_70 74 (by decide) ?_
            refine WP.iret (pc := 74) hC rfl dX6_brightFor_74 ?_ ?_ ?_
            all_goals (first | rfl | exact absurd (h7.symm.trans h45) (by decide) | ((try simp only [Int32.add_zero] at h62); first | (have h11 := i_nlt.mpr h11; first | (have h62 := i_nlt.mpr h62; simp [seesM, h7, h11, h26, h45, h62]; done) | (have h62 := i_nle.mp h62; simp [seesM, h7, h11, h26, h45, h62]; done)) | (have h11 := i_nle.mp h11; first | (have h62 := i_nlt.mpr h62; simp [seesM, h7, h11, h26, h45, h62]; done) | (have h62 := i_nle.mp h62; simp [seesM, h7, h11, h26, h45, h62]; done)) | (have h62 := i_nlt.mpr h62; simp [seesM, h7, h26, h45, h62]; done) | (have h62 := i_nle.mp h62; simp [seesM, h7, h26, h45, h62]; done)))
    · refine WP.iln (pc := 14) hC dX6_brightFor_14 rfl ?_
      refine WP.iconst (pc := 15) hC dX6_brightFor_15 2 (by decide) ?_
      refine WP.iadd (pc := 16) hC dX6_brightFor_16 ?_
      refine WP.goto (pc := 17) hC dX6_brightFor_17 21 (by decide) ?_
      refine WP.is (lv' := [_, _, _, _, _, _, _, _, _]) (pc := 21) hC dX6_brightFor_21 rfl (by decide) rfl ?_
      refine WP.iln (pc := 23) hC dX6_brightFor_23 rfl ?_
      refine WP.il (pc := 24) hC dX6_brightFor_24 rfl ?_
      refine WP.ifeq (pc := 26) hC dX6_brightFor_26 34 (by decide) (fun h26 => ?_) (fun h26 => ?_)
      · rw [b2_0] at h26
        refine WP.iconst (pc := 34) hC dX6_brightFor_34 0 (by decide) ?_
        refine WP.iadd (pc := 35) hC dX6_brightFor_35 ?_
        refine WP.is (lv' := [_, _, _, _, _, _, _, _, _]) (pc := 36) hC dX6_brightFor_36 rfl (by decide) rfl ?_
        refine WP.aln (pc := 38) hC dX6_brightFor_38 rfl ?_
        refine WP.gf (pc := 39) hC dX6_brightFor_39 fl_X6_16 (by decide) rfl rfl ?_
        refine WP.iln (pc := 42) hC dX6_brightFor_42 rfl ?_
        refine WP.ial (pc := 43) hC dX6_brightFor_43 i rfl hi (by decide) rfl (by decide) ?_
        refine WP.iconst (pc := 44) hC dX6_brightFor_44 2 (by decide) ?_
        refine WP.icne (pc := 45) hC dX6_brightFor_45 55 (by decide) (fun h45 => ?_) (fun h45 => ?_)
        · refine WP.iconst (pc := 55) hC dX6_brightFor_55 0 (by decide) ?_
          refine WP.is (lv' := [_, _, _, _, _, _, _, _, _]) (pc := 56) hC dX6_brightFor_56 rfl (by decide) rfl ?_
          refine WP.il (pc := 58) hC dX6_brightFor_58 rfl ?_
          refine WP.il (pc := 60) hC dX6_brightFor_60 rfl ?_
          refine WP.icle (pc := 62) hC dX6_brightFor_62 73 (by decide) (fun h62 => ?_) (fun h62 => ?_)
          · refine WP.iconst (pc := 73) hC dX6_brightFor_73 0 (by decide) ?_
            refine WP.iret (pc := 74) hC rfl dX6_brightFor_74 ?_ ?_ ?_
            all_goals (first | rfl | exact absurd (h7.symm.trans h45) (by decide) | ((try simp only [Int32.add_zero] at h62); first | (have h11 := i_nlt.mpr h11; first | (have h62 := i_nlt.mpr h62; simp [seesM, h7, h11, h26, h45, h62]; done) | (have h62 := i_nle.mp h62; simp [seesM, h7, h11, h26, h45, h62]; done)) | (have h11 := i_nle.mp h11; first | (have h62 := i_nlt.mpr h62; simp [seesM, h7, h11, h26, h45, h62]; done) | (have h62 := i_nle.mp h62; simp [seesM, h7, h11, h26, h45, h62]; done)) | (have h62 := i_nlt.mpr h62; simp [seesM, h7, h26, h45, h62]; done) | (have h62 := i_nle.mp h62; simp [seesM, h7, h26, h45, h62]; done)))
          · refine WP.il (pc := 65) hC dX6_brightFor_65 rfl ?_
            refine WP.il (pc := 67) hC dX6_brightFor_67 rfl ?_
            refine WP.isub (pc := 69) hC dX6_brightFor_69 ?_
            refine WP.goto (pc := 70) hC dX6_brightFor_70 74 (by decide) ?_
            refine WP.iret (pc := 74) hC rfl dX6_brightFor_74 ?_ ?_ ?_
            all_goals (first | rfl | exact absurd (h7.symm.trans h45) (by decide) | ((try simp only [Int32.add_zero] at h62); first | (have h11 := i_nlt.mpr h11; first | (have h62 := i_nlt.mpr h62; simp [seesM, h7, h11, h26, h45, h62]; done) | (have h62 := i_nle.mp h62; simp [seesM, h7, h11, h26, h45, h62]; done)) | (have h11 := i_nle.mp h11; first | (have h62 := i_nlt.mpr h62; simp [seesM, h7, h11, h26, h45, h62]; done) | (have h62 := i_nle.mp h62; simp [seesM, h7, h11, h26, h45, h62]; done)) | (have h62 := i_nlt.mpr h62; simp [seesM, h7, h26, h45, h62]; done) | (have h62 := i_nle.mp h62; simp [seesM, h7, h26, h45, h62]; done)))
        · refine WP.il (pc := 48) hC dX6_brightFor_48 rfl ?_
          refine WP.iconst (pc := 50) hC dX6_brightFor_50 2 (by decide) ?_
          refine WP.idiv (pc := 51) hC dX6_brightFor_51 (by decide) ?_
          refine WP.goto (pc := 52) hC dX6_brightFor_52 56 (by decide) ?_
          refine WP.is (lv' := [_, _, _, _, _, _, _, _, _]) (pc := 56) hC dX6_brightFor_56 rfl (by decide) rfl ?_
          refine WP.il (pc := 58) hC dX6_brightFor_58 rfl ?_
          refine WP.il (pc := 60) hC dX6_brightFor_60 rfl ?_
          refine WP.icle (pc := 62) hC dX6_brightFor_62 73 (by decide) (fun h62 => ?_) (fun h62 => ?_)
          · refine WP.iconst (pc := 73) hC dX6_brightFor_73 0 (by decide) ?_
            refine WP.iret (pc := 74) hC rfl dX6_brightFor_74 ?_ ?_ ?_
            all_goals (first | rfl | exact absurd (h7.symm.trans h45) (by decide) | ((try simp only [Int32.add_zero] at h62); first | (have h11 := i_nlt.mpr h11; first | (have h62 := i_nlt.mpr h62; simp [seesM, h7, h11, h26, h45, h62]; done) | (have h62 := i_nle.mp h62; simp [seesM, h7, h11, h26, h45, h62]; done)) | (have h11 := i_nle.mp h11; first | (have h62 := i_nlt.mpr h62; simp [seesM, h7, h11, h26, h45, h62]; done) | (have h62 := i_nle.mp h62; simp [seesM, h7, h11, h26, h45, h62]; done)) | (have h62 := i_nlt.mpr h62; simp [seesM, h7, h26, h45, h62]; done) | (have h62 := i_nle.mp h62; simp [seesM, h7, h26, h45, h62]; done)))
          · refine WP.il (pc := 65) hC dX6_brightFor_65 rfl ?_
            refine WP.il (pc := 67) hC dX6_brightFor_67 rfl ?_
            refine WP.isub (pc := 69) hC dX6_brightFor_69 ?_
            refine WP.goto (pc := 70) hC dX6_brightFor_70 74 (by decide) ?_
            refine WP.iret (pc := 74) hC rfl dX6_brightFor_74 ?_ ?_ ?_
            all_goals (first | rfl | exact absurd (h7.symm.trans h45) (by decide) | ((try simp only [Int32.add_zero] at h62); first | (have h11 := i_nlt.mpr h11; first | (have h62 := i_nlt.mpr h62; simp [seesM, h7, h11, h26, h45, h62]; done) | (have h62 := i_nle.mp h62; simp [seesM, h7, h11, h26, h45, h62]; done)) | (have h11 := i_nle.mp h11; first | (have h62 := i_nlt.mpr h62; simp [seesM, h7, h11, h26, h45, h62]; done) | (have h62 := i_nle.mp h62; simp [seesM, h7, h11, h26, h45, h62]; done)) | (have h62 := i_nlt.mpr h62; simp [seesM, h7, h26, h45, h62]; done) | (have h62 := i_nle.mp h62; simp [seesM, h7, h26, h45, h62]; done)))
      · rw [b2_n0] at h26
        refine WP.il (pc := 29) hC dX6_brightFor_29 rfl ?_
        refine WP.goto (pc := 31) hC dX6_brightFor_31 35 (by decide) ?_
        refine WP.iadd (pc := 35) hC dX6_brightFor_35 ?_
        refine WP.is (lv' := [_, _, _, _, _, _, _, _, _]) (pc := 36) hC dX6_brightFor_36 rfl (by decide) rfl ?_
        refine WP.aln (pc := 38) hC dX6_brightFor_38 rfl ?_
        refine WP.gf (pc := 39) hC dX6_brightFor_39 fl_X6_16 (by decide) rfl rfl ?_
        refine WP.iln (pc := 42) hC dX6_brightFor_42 rfl ?_
        refine WP.ial (pc := 43) hC dX6_brightFor_43 i rfl hi (by decide) rfl (by decide) ?_
        refine WP.iconst (pc := 44) hC dX6_brightFor_44 2 (by decide) ?_
        refine WP.icne (pc := 45) hC dX6_brightFor_45 55 (by decide) (fun h45 => ?_) (fun h45 => ?_)
        · refine WP.iconst (pc := 55) hC dX6_brightFor_55 0 (by decide) ?_
          refine WP.is (lv' := [_, _, _, _, _, _, _, _, _]) (pc := 56) hC dX6_brightFor_56 rfl (by decide) rfl ?_
          refine WP.il (pc := 58) hC dX6_brightFor_58 rfl ?_
          refine WP.il (pc := 60) hC dX6_brightFor_60 rfl ?_
          refine WP.icle (pc := 62) hC dX6_brightFor_62 73 (by decide) (fun h62 => ?_) (fun h62 => ?_)
          · refine WP.iconst (pc := 73) hC dX6_brightFor_73 0 (by decide) ?_
            refine WP.iret (pc := 74) hC rfl dX6_brightFor_74 ?_ ?_ ?_
            all_goals (first | rfl | exact absurd (h7.symm.trans h45) (by decide) | ((try simp only [Int32.add_zero] at h62); first | (have h11 := i_nlt.mpr h11; first | (have h62 := i_nlt.mpr h62; simp [seesM, h7, h11, h26, h45, h62]; done) | (have h62 := i_nle.mp h62; simp [seesM, h7, h11, h26, h45, h62]; done)) | (have h11 := i_nle.mp h11; first | (have h62 := i_nlt.mpr h62; simp [seesM, h7, h11, h26, h45, h62]; done) | (have h62 := i_nle.mp h62; simp [seesM, h7, h11, h26, h45, h62]; done)) | (have h62 := i_nlt.mpr h62; simp [seesM, h7, h26, h45, h62]; done) | (have h62 := i_nle.mp h62; simp [seesM, h7, h26, h45, h62]; done)))
          · refine WP.il (pc := 65) hC dX6_brightFor_65 rfl ?_
            refine WP.il (pc := 67) hC dX6_brightFor_67 rfl ?_
            refine WP.isub (pc := 69) hC dX6_brightFor_69 ?_
            refine WP.goto (pc := 70) hC dX6_brightFor_70 74 (by decide) ?_
            refine WP.iret (pc := 74) hC rfl dX6_brightFor_74 ?_ ?_ ?_
            all_goals (first | rfl | exact absurd (h7.symm.trans h45) (by decide) | ((try simp only [Int32.add_zero] at h62); first | (have h11 := i_nlt.mpr h11; first | (have h62 := i_nlt.mpr h62; simp [seesM, h7, h11, h26, h45, h62]; done) | (have h62 := i_nle.mp h62; simp [seesM, h7, h11, h26, h45, h62]; done)) | (have h11 := i_nle.mp h11; first | (have h62 := i_nlt.mpr h62; simp [seesM, h7, h11, h26, h45, h62]; done) | (have h62 := i_nle.mp h62; simp [seesM, h7, h11, h26, h45, h62]; done)) | (have h62 := i_nlt.mpr h62; simp [seesM, h7, h26, h45, h62]; done) | (have h62 := i_nle.mp h62; simp [seesM, h7, h26, h45, h62]; done)))
        · refine WP.il (pc := 48) hC dX6_brightFor_48 rfl ?_
          refine WP.iconst (pc := 50) hC dX6_brightFor_50 2 (by decide) ?_
          refine WP.idiv (pc := 51) hC dX6_brightFor_51 (by decide) ?_
          refine WP.goto (pc := 52) hC dX6_brightFor_52 56 (by decide) ?_
          refine WP.is (lv' := [_, _, _, _, _, _, _, _, _]) (pc := 56) hC dX6_brightFor_56 rfl (by decide) rfl ?_
          refine WP.il (pc := 58) hC dX6_brightFor_58 rfl ?_
          refine WP.il (pc := 60) hC dX6_brightFor_60 rfl ?_
          refine WP.icle (pc := 62) hC dX6_brightFor_62 73 (by decide) (fun h62 => ?_) (fun h62 => ?_)
          · refine WP.iconst (pc := 73) hC dX6_brightFor_73 0 (by decide) ?_
            refine WP.iret (pc := 74) hC rfl dX6_brightFor_74 ?_ ?_ ?_
            all_goals (first | rfl | exact absurd (h7.symm.trans h45) (by decide) | ((try simp only [Int32.add_zero] at h62); first | (have h11 := i_nlt.mpr h11; first | (have h62 := i_nlt.mpr h62; simp [seesM, h7, h11, h26, h45, h62]; done) | (have h62 := i_nle.mp h62; simp [seesM, h7, h11, h26, h45, h62]; done)) | (have h11 := i_nle.mp h11; first | (have h62 := i_nlt.mpr h62; simp [seesM, h7, h11, h26, h45, h62]; done) | (have h62 := i_nle.mp h62; simp [seesM, h7, h11, h26, h45, h62]; done)) | (have h62 := i_nlt.mpr h62; simp [seesM, h7, h26, h45, h62]; done) | (have h62 := i_nle.mp h62; simp [seesM, h7, h26, h45, h62]; done)))
          · refine WP.il (pc := 65) hC dX6_brightFor_65 rfl ?_
            refine WP.il (pc := 67) hC dX6_brightFor_67 rfl ?_
            refine WP.isub (pc := 69) hC dX6_brightFor_69 ?_
            refine WP.goto (pc := 70) hC dX6_brightFor_70 74 (by decide) ?_
            refine WP.iret (pc := 74) hC rfl dX6_brightFor_74 ?_ ?_ ?_
            all_goals (first | rfl | exact absurd (h7.symm.trans h45) (by decide) | ((try simp only [Int32.add_zero] at h62); first | (have h11 := i_nlt.mpr h11; first | (have h62 := i_nlt.mpr h62; simp [seesM, h7, h11, h26, h45, h62]; done) | (have h62 := i_nle.mp h62; simp [seesM, h7, h11, h26, h45, h62]; done)) | (have h11 := i_nle.mp h11; first | (have h62 := i_nlt.mpr h62; simp [seesM, h7, h11, h26, h45, h62]; done) | (have h62 := i_nle.mp h62; simp [seesM, h7, h11, h26, h45, h62]; done)) | (have h62 := i_nlt.mpr h62; simp [seesM, h7, h26, h45, h62]; done) | (have h62 := i_nle.mp h62; simp [seesM, h7, h26, h45, h62]; done)))
set_option maxHeartbeats 4000000 in
theorem k_X6_saysYes (l : Launch) (F : FF) (L : Int64) (i : Nat) (v : Int32) (hi : i < 5) : CI l yX6_saysYes cX6_saysYes 3 (some .boolean) (rmx 0 0) wM [.ref 0, .int (nI i), .int v] F L (b2 (saysB (F 3 i) (F 2 i) v)) F L := by
  refine mkI [some (.ref 0), some (.int (nI i)), some (.int v)] 0 (by decide) rfl (Nat.le_of_ble_eq_true rfl) ?_
  intro x d hx hC
  subst hx
  have hC : Cx x cX6_saysYes 3 RX6 (some .boolean) (rmx 0 0) wM d := hC
  refine WP.aln (pc := 0) hC dX6_saysYes_0 rfl ?_
  refine WP.gf (pc := 1) hC dX6_saysYes_1 fl_X6_16 (by decide) rfl rfl ?_
  refine WP.iln (pc := 4) hC dX6_saysYes_4 rfl ?_
  refine WP.ial (pc := 5) hC dX6_saysYes_5 i rfl hi (by decide) rfl (by decide) ?_
  refine WP.iconst (pc := 6) hC dX6_saysYes_6 3 (by decide) ?_
  refine WP.iceq (pc := 7) hC dX6_saysYes_7 20 (by decide) (fun h7 => ?_) (fun h7 => ?_)
  · refine WP.iconst (pc := 20) hC dX6_saysYes_20 1 (by decide) ?_
    refine WP.goto (pc := 21) hC dX6_saysYes_21 25 (by decide) ?_
    refine WP.zret (pc := 25) hC rfl (by first | exact Or.inl rfl | exact Or.inr rfl | exact b2_01 _) dX6_saysYes_25 ?_ ?_ ?_
    all_goals (first | rfl | (simp [saysB, b2, h7]; done) | (simp [saysB, b2, h7, i_nlt.mp h17]; done) | (simp [saysB, b2, h7, i_nle.mpr h17]; done))
  · refine WP.iln (pc := 10) hC dX6_saysYes_10 rfl ?_
    refine WP.aln (pc := 11) hC dX6_saysYes_11 rfl ?_
    refine WP.gf (pc := 12) hC dX6_saysYes_12 fl_X6_13 (by decide) rfl rfl ?_
    refine WP.iln (pc := 15) hC dX6_saysYes_15 rfl ?_
    refine WP.ial (pc := 16) hC dX6_saysYes_16 i rfl hi (by decide) rfl (by decide) ?_
    refine WP.iclt (pc := 17) hC dX6_saysYes_17 24 (by decide) (fun h17 => ?_) (fun h17 => ?_)
    · refine WP.iconst (pc := 24) hC dX6_saysYes_24 0 (by decide) ?_
      refine WP.zret (pc := 25) hC rfl (by first | exact Or.inl rfl | exact Or.inr rfl | exact b2_01 _) dX6_saysYes_25 ?_ ?_ ?_
      all_goals (first | rfl | (simp [saysB, b2, h7]; done) | (simp [saysB, b2, h7, i_nlt.mp h17]; done) | (simp [saysB, b2, h7, i_nle.mpr h17]; done))
    · refine WP.iconst (pc := 20) hC dX6_saysYes_20 1 (by decide) ?_
      refine WP.goto (pc := 21) hC dX6_saysYes_21 25 (by decide) ?_
      refine WP.zret (pc := 25) hC rfl (by first | exact Or.inl rfl | exact Or.inr rfl | exact b2_01 _) dX6_saysYes_25 ?_ ?_ ?_
      all_goals (first | rfl | (simp [saysB, b2, h7]; done) | (simp [saysB, b2, h7, i_nlt.mp h17]; done) | (simp [saysB, b2, h7, i_nle.mpr h17]; done))
set_option maxHeartbeats 4000000 in
theorem k_X6_brightOn (l : Launch) (F : FF) (L : Int64) (v i j : Nat) (hv : v < 2) (hi : i < 5) (hj : j < 4) : CI l yX6_brightOn cX6_brightOn 5 (some .int) (rmx 1 28) wM [.ref 0, .int (nI v), .int (nI i), .int (nI j)] F L (brM F v j i) F L := by
  refine mkI [some (.ref 0), some (.int (nI v)), some (.int (nI i)), some (.int (nI j)), none] 1 (by decide) rfl (Nat.le_of_ble_eq_true rfl) ?_
  intro x d hx hC
  subst hx
  have hC : Cx x cX6_brightOn 5 RX6 (some .int) (rmx 1 28) wM d := hC
  refine WP.bipush (pc := 0) hC dX6_brightOn_0 9 (by decide) ?_
  refine WP.iln (pc := 2) hC dX6_brightOn_2 rfl ?_
  refine WP.imul (pc := 3) hC dX6_brightOn_3 ?_
  rw [show (9 : Int32) * nI v = nI (9 * v) from pk_mul 9 v]
  refine WP.is (lv' := [_, _, _, _, _]) (pc := 4) hC dX6_brightOn_4 rfl (by decide) rfl ?_
  refine WP.aln (pc := 6) hC dX6_brightOn_6 rfl ?_
  refine WP.iln (pc := 7) hC dX6_brightOn_7 rfl ?_
  refine WP.aln (pc := 8) hC dX6_brightOn_8 rfl ?_
  refine WP.gf (pc := 9) hC dX6_brightOn_9 fl_X6_7 (by decide) rfl rfl ?_
  refine WP.iln (pc := 12) hC dX6_brightOn_12 rfl ?_
  refine WP.ial (pc := 13) hC dX6_brightOn_13 i rfl hi (by decide) rfl (by decide) ?_
  refine WP.aln (pc := 14) hC dX6_brightOn_14 rfl ?_
  refine WP.gf (pc := 15) hC dX6_brightOn_15 fl_X6_22 (by decide) rfl rfl ?_
  refine WP.il (pc := 18) hC dX6_brightOn_18 rfl ?_
  refine WP.bipush (pc := 20) hC dX6_brightOn_20 7 (by decide) ?_
  refine WP.iadd (pc := 22) hC dX6_brightOn_22 ?_
  rw [show nI (9 * v) + 7 = nI (9 * v + 7) from nI_add _ 7]
  refine WP.ial (pc := 23) hC dX6_brightOn_23 (9 * v + 7) rfl (by omega) (by decide) rfl (by decide) ?_
  refine WP.iconst (pc := 24) hC dX6_brightOn_24 1 (by decide) ?_
  refine WP.icne (pc := 25) hC dX6_brightOn_25 37 (by decide) (fun h25 => ?_) (fun h25 => ?_)
  · refine WP.iconst (pc := 37) hC dX6_brightOn_37 0 (by decide) ?_
    refine WP.aln (pc := 38) hC dX6_brightOn_38 rfl ?_
    refine WP.gf (pc := 39) hC dX6_brightOn_39 fl_X6_22 (by decide) rfl rfl ?_
    refine WP.il (pc := 42) hC dX6_brightOn_42 rfl ?_
    refine WP.bipush (pc := 44) hC dX6_brightOn_44 8 (by decide) ?_
    refine WP.iadd (pc := 46) hC dX6_brightOn_46 ?_
    rw [show nI (9 * v) + 8 = nI (9 * v + 8) from nI_add _ 8]
    refine WP.ial (pc := 47) hC dX6_brightOn_47 (9 * v + 8) rfl (by omega) (by decide) rfl (by decide) ?_
    refine WP.iconst (pc := 48) hC dX6_brightOn_48 1 (by decide) ?_
    refine WP.icne (pc := 49) hC dX6_brightOn_49 56 (by decide) (fun h49 => ?_) (fun h49 => ?_)
    · refine WP.iconst (pc := 56) hC dX6_brightOn_56 0 (by decide) ?_
      refine WP.aln (pc := 57) hC dX6_brightOn_57 rfl ?_
      refine WP.gf (pc := 58) hC dX6_brightOn_58 fl_X6_22 (by decide) rfl rfl ?_
      refine WP.il (pc := 61) hC dX6_brightOn_61 rfl ?_
      refine WP.iln (pc := 63) hC dX6_brightOn_63 rfl ?_
      refine WP.iadd (pc := 64) hC dX6_brightOn_64 ?_
      rw [nI_add]
      refine WP.ial (pc := 65) hC dX6_brightOn_65 (9 * v + i) rfl (by omega) (by decide) rfl (by decide) ?_
      refine WP.callVI (pc := 66) hC dX6_brightOn_66 (k_X6_brightFor _ F L i _ _ _ false hi) ml_X6_95 rfl rfl (by decide) rfl (Nat.le_of_ble_eq_true rfl) ⟨by decide, by decide⟩ ?_
      refine WP.iret (pc := 69) hC rfl dX6_brightOn_69 ?_ ?_ ?_
      all_goals (first | rfl | (unfold brM lits; first | (rw [tru_t h25, tru_t h49]; rfl) | (rw [tru_t h25, tru_f h49]; rfl) | (rw [tru_f h25, tru_t h49]; rfl) | (rw [tru_f h25, tru_f h49]; rfl)))
    · refine WP.iconst (pc := 52) hC dX6_brightOn_52 1 (by decide) ?_
      refine WP.goto (pc := 53) hC dX6_brightOn_53 57 (by decide) ?_
      refine WP.aln (pc := 57) hC dX6_brightOn_57 rfl ?_
      refine WP.gf (pc := 58) hC dX6_brightOn_58 fl_X6_22 (by decide) rfl rfl ?_
      refine WP.il (pc := 61) hC dX6_brightOn_61 rfl ?_
      refine WP.iln (pc := 63) hC dX6_brightOn_63 rfl ?_
      refine WP.iadd (pc := 64) hC dX6_brightOn_64 ?_
      rw [nI_add]
      refine WP.ial (pc := 65) hC dX6_brightOn_65 (9 * v + i) rfl (by omega) (by decide) rfl (by decide) ?_
      refine WP.callVI (pc := 66) hC dX6_brightOn_66 (k_X6_brightFor _ F L i _ _ _ true hi) ml_X6_95 rfl rfl (by decide) rfl (Nat.le_of_ble_eq_true rfl) ⟨by decide, by decide⟩ ?_
      refine WP.iret (pc := 69) hC rfl dX6_brightOn_69 ?_ ?_ ?_
      all_goals (first | rfl | (unfold brM lits; first | (rw [tru_t h25, tru_t h49]; rfl) | (rw [tru_t h25, tru_f h49]; rfl) | (rw [tru_f h25, tru_t h49]; rfl) | (rw [tru_f h25, tru_f h49]; rfl)))
  · refine WP.aln (pc := 28) hC dX6_brightOn_28 rfl ?_
    refine WP.gf (pc := 29) hC dX6_brightOn_29 fl_X6_19 (by decide) rfl rfl ?_
    refine WP.iln (pc := 32) hC dX6_brightOn_32 rfl ?_
    refine WP.ial (pc := 33) hC dX6_brightOn_33 j rfl hj (by decide) rfl (by decide) ?_
    refine WP.goto (pc := 34) hC dX6_brightOn_34 38 (by decide) ?_
    refine WP.aln (pc := 38) hC dX6_brightOn_38 rfl ?_
    refine WP.gf (pc := 39) hC dX6_brightOn_39 fl_X6_22 (by decide) rfl rfl ?_
    refine WP.il (pc := 42) hC dX6_brightOn_42 rfl ?_
    refine WP.bipush (pc := 44) hC dX6_brightOn_44 8 (by decide) ?_
    refine WP.iadd (pc := 46) hC dX6_brightOn_46 ?_
    rw [show nI (9 * v) + 8 = nI (9 * v + 8) from nI_add _ 8]
    refine WP.ial (pc := 47) hC dX6_brightOn_47 (9 * v + 8) rfl (by omega) (by decide) rfl (by decide) ?_
    refine WP.iconst (pc := 48) hC dX6_brightOn_48 1 (by decide) ?_
    refine WP.icne (pc := 49) hC dX6_brightOn_49 56 (by decide) (fun h49 => ?_) (fun h49 => ?_)
    · refine WP.iconst (pc := 56) hC dX6_brightOn_56 0 (by decide) ?_
      refine WP.aln (pc := 57) hC dX6_brightOn_57 rfl ?_
      refine WP.gf (pc := 58) hC dX6_brightOn_58 fl_X6_22 (by decide) rfl rfl ?_
      refine WP.il (pc := 61) hC dX6_brightOn_61 rfl ?_
      refine WP.iln (pc := 63) hC dX6_brightOn_63 rfl ?_
      refine WP.iadd (pc := 64) hC dX6_brightOn_64 ?_
      rw [nI_add]
      refine WP.ial (pc := 65) hC dX6_brightOn_65 (9 * v + i) rfl (by omega) (by decide) rfl (by decide) ?_
      refine WP.callVI (pc := 66) hC dX6_brightOn_66 (k_X6_brightFor _ F L i _ _ _ false hi) ml_X6_95 rfl rfl (by decide) rfl (Nat.le_of_ble_eq_true rfl) ⟨by decide, by decide⟩ ?_
      refine WP.iret (pc := 69) hC rfl dX6_brightOn_69 ?_ ?_ ?_
      all_goals (first | rfl | (unfold brM lits; first | (rw [tru_t h25, tru_t h49]; rfl) | (rw [tru_t h25, tru_f h49]; rfl) | (rw [tru_f h25, tru_t h49]; rfl) | (rw [tru_f h25, tru_f h49]; rfl)))
    · refine WP.iconst (pc := 52) hC dX6_brightOn_52 1 (by decide) ?_
      refine WP.goto (pc := 53) hC dX6_brightOn_53 57 (by decide) ?_
      refine WP.aln (pc := 57) hC dX6_brightOn_57 rfl ?_
      refine WP.gf (pc := 58) hC dX6_brightOn_58 fl_X6_22 (by decide) rfl rfl ?_
      refine WP.il (pc := 61) hC dX6_brightOn_61 rfl ?_
      refine WP.iln (pc := 63) hC dX6_brightOn_63 rfl ?_
      refine WP.iadd (pc := 64) hC dX6_brightOn_64 ?_
      rw [nI_add]
      refine WP.ial (pc := 65) hC dX6_brightOn_65 (9 * v + i) rfl (by omega) (by decide) rfl (by decide) ?_
      refine WP.callVI (pc := 66) hC dX6_brightOn_66 (k_X6_brightFor _ F L i _ _ _ true hi) ml_X6_95 rfl rfl (by decide) rfl (Nat.le_of_ble_eq_true rfl) ⟨by decide, by decide⟩ ?_
      refine WP.iret (pc := 69) hC rfl dX6_brightOn_69 ?_ ?_ ?_
      all_goals (first | rfl | (unfold brM lits; first | (rw [tru_t h25, tru_t h49]; rfl) | (rw [tru_t h25, tru_f h49]; rfl) | (rw [tru_f h25, tru_t h49]; rfl) | (rw [tru_f h25, tru_f h49]; rfl)))
set_option maxHeartbeats 4000000 in
theorem k_X6_saysOn (l : Launch) (F : FF) (L : Int64) (v i j : Nat) (hv : v < 2) (hi : i < 5) (hj : j < 4) : CI l yX6_saysOn cX6_saysOn 4 (some .boolean) (rmx 2 52) wM [.ref 0, .int (nI v), .int (nI i), .int (nI j)] F L (b2 (sayM F v j i)) F L := by
  refine mkI [some (.ref 0), some (.int (nI v)), some (.int (nI i)), some (.int (nI j))] 0 (by decide) rfl (Nat.le_of_ble_eq_true rfl) ?_
  intro x d hx hC
  subst hx
  have hC : Cx x cX6_saysOn 4 RX6 (some .boolean) (rmx 2 52) wM d := hC
  refine WP.aln (pc := 0) hC dX6_saysOn_0 rfl ?_
  refine WP.iln (pc := 1) hC dX6_saysOn_1 rfl ?_
  refine WP.aln (pc := 2) hC dX6_saysOn_2 rfl ?_
  refine WP.iln (pc := 3) hC dX6_saysOn_3 rfl ?_
  refine WP.iln (pc := 4) hC dX6_saysOn_4 rfl ?_
  refine WP.iln (pc := 5) hC dX6_saysOn_5 rfl ?_
  refine WP.callVI (pc := 6) hC dX6_saysOn_6 (k_X6_brightOn _ F L v i j hv hi hj) ml_X6_99 rfl rfl (by decide) rfl (Nat.le_of_ble_eq_true rfl) ⟨by decide, by decide⟩ ?_
  refine WP.callVI (pc := 9) hC dX6_saysOn_9 (k_X6_saysYes _ F L i _ hi) ml_X6_103 rfl rfl (by decide) rfl (Nat.le_of_ble_eq_true rfl) ⟨by decide, by decide⟩ ?_
  refine WP.zret (pc := 12) hC rfl (by first | exact Or.inl rfl | exact Or.inr rfl | exact b2_01 _) dX6_saysOn_12 ?_ ?_ ?_
  all_goals (rfl)
set_option maxHeartbeats 4000000 in
theorem k_X6_isRight (l : Launch) (F : FF) (L : Int64) (y : Bool) (j : Nat) (hj : j < 4) : CI l yX6_isRight cX6_isRight 3 (some .boolean) (rmx 0 0) wM [.ref 0, .int (b2 y), .int (nI j)] F L (b2 (y == decide (0 < F 4 j))) F L := by
  refine mkI [some (.ref 0), some (.int (b2 y)), some (.int (nI j))] 0 (by decide) rfl (Nat.le_of_ble_eq_true rfl) ?_
  intro x d hx hC
  subst hx
  have hC : Cx x cX6_isRight 3 RX6 (some .boolean) (rmx 0 0) wM d := hC
  refine WP.iln (pc := 0) hC dX6_isRight_0 rfl ?_
  refine WP.aln (pc := 1) hC dX6_isRight_1 rfl ?_
  refine WP.gf (pc := 2) hC dX6_isRight_2 fl_X6_19 (by decide) rfl rfl ?_
  refine WP.iln (pc := 5) hC dX6_isRight_5 rfl ?_
  refine WP.ial (pc := 6) hC dX6_isRight_6 j rfl hj (by decide) rfl (by decide) ?_
  refine WP.ifle (pc := 7) hC dX6_isRight_7 14 (by decide) (fun h7 => ?_) (fun h7 => ?_)
  · refine WP.iconst (pc := 14) hC dX6_isRight_14 0 (by decide) ?_
    refine WP.icne (pc := 15) hC dX6_isRight_15 22 (by decide) (fun h15 => ?_) (fun h15 => ?_)
    · refine WP.iconst (pc := 22) hC dX6_isRight_22 0 (by decide) ?_
      refine WP.zret (pc := 23) hC rfl (by first | exact Or.inl rfl | exact Or.inr rfl | exact b2_01 _) dX6_isRight_23 ?_ ?_ ?_
      all_goals (first | rfl | (have h7 := i_nlt.mpr h7; cases y <;> first | exact absurd h15 (by decide) | (simp [b2, h7]; done)) | (have h7 := i_nle.mp h7; cases y <;> first | exact absurd h15 (by decide) | (simp [b2, h7]; done)))
    · refine WP.iconst (pc := 18) hC dX6_isRight_18 1 (by decide) ?_
      refine WP.goto (pc := 19) hC dX6_isRight_19 23 (by decide) ?_
      refine WP.zret (pc := 23) hC rfl (by first | exact Or.inl rfl | exact Or.inr rfl | exact b2_01 _) dX6_isRight_23 ?_ ?_ ?_
      all_goals (first | rfl | (have h7 := i_nlt.mpr h7; cases y <;> first | exact absurd h15 (by decide) | (simp [b2, h7]; done)) | (have h7 := i_nle.mp h7; cases y <;> first | exact absurd h15 (by decide) | (simp [b2, h7]; done)))
  · refine WP.iconst (pc := 10) hC dX6_isRight_10 1 (by decide) ?_
    refine WP.goto (pc := 11) hC dX6_isRight_11 15 (by decide) ?_
    refine WP.icne (pc := 15) hC dX6_isRight_15 22 (by decide) (fun h15 => ?_) (fun h15 => ?_)
    · refine WP.iconst (pc := 22) hC dX6_isRight_22 0 (by decide) ?_
      refine WP.zret (pc := 23) hC rfl (by first | exact Or.inl rfl | exact Or.inr rfl | exact b2_01 _) dX6_isRight_23 ?_ ?_ ?_
      all_goals (first | rfl | (have h7 := i_nlt.mpr h7; cases y <;> first | exact absurd h15 (by decide) | (simp [b2, h7]; done)) | (have h7 := i_nle.mp h7; cases y <;> first | exact absurd h15 (by decide) | (simp [b2, h7]; done)))
    · refine WP.iconst (pc := 18) hC dX6_isRight_18 1 (by decide) ?_
      refine WP.goto (pc := 19) hC dX6_isRight_19 23 (by decide) ?_
      refine WP.zret (pc := 23) hC rfl (by first | exact Or.inl rfl | exact Or.inr rfl | exact b2_01 _) dX6_isRight_23 ?_ ?_ ?_
      all_goals (first | rfl | (have h7 := i_nlt.mpr h7; cases y <;> first | exact absurd h15 (by decide) | (simp [b2, h7]; done)) | (have h7 := i_nle.mp h7; cases y <;> first | exact absurd h15 (by decide) | (simp [b2, h7]; done)))
set_option maxHeartbeats 4000000 in
theorem k_X6_readOn (l : Launch) (F : FF) (L : Int64) (v i j : Nat) (hv : v < 2) (hi : i < 5) (hj : j < 4) : CI l yX6_readOn cX6_readOn 7 (some .boolean) (rmx 3 75) wM [.ref 0, .int (nI v), .int (nI i), .int (nI j)] F L (b2 (sayM F v j i)) (rdM F v i j (sayM F v j i)) L := by
  refine mkI [some (.ref 0), some (.int (nI v)), some (.int (nI i)), some (.int (nI j)), none, none, none] 3 (by decide) rfl (Nat.le_of_ble_eq_true rfl) ?_
  intro x d hx hC
  subst hx
  have hC : Cx x cX6_readOn 7 RX6 (some .boolean) (rmx 3 75) wM d := hC
  refine WP.bipush (pc := 0) hC dX6_readOn_0 9 (by decide) ?_
  refine WP.iln (pc := 2) hC dX6_readOn_2 rfl ?_
  refine WP.imul (pc := 3) hC dX6_readOn_3 ?_
  rw [show (9 : Int32) * nI v = nI (9 * v) from pk_mul 9 v]
  refine WP.is (lv' := [_, _, _, _, _, _, _]) (pc := 4) hC dX6_readOn_4 rfl (by decide) rfl ?_
  refine WP.aln (pc := 6) hC dX6_readOn_6 rfl ?_
  refine WP.iln (pc := 7) hC dX6_readOn_7 rfl ?_
  refine WP.iln (pc := 8) hC dX6_readOn_8 rfl ?_
  refine WP.iln (pc := 9) hC dX6_readOn_9 rfl ?_
  refine WP.callVI (pc := 10) hC dX6_readOn_10 (k_X6_saysOn _ F L v i j hv hi hj) ml_X6_107 rfl rfl (by decide) rfl (Nat.le_of_ble_eq_true rfl) ⟨by decide, by decide⟩ ?_
  generalize hy : sayM F v j i = y
  refine WP.is (lv' := [_, _, _, _, _, _, _]) (pc := 13) hC dX6_readOn_13 rfl (by decide) rfl ?_
  refine WP.iconst (pc := 15) hC dX6_readOn_15 1 (by decide) ?_
  refine WP.iconst (pc := 16) hC dX6_readOn_16 4 (by decide) ?_
  refine WP.iln (pc := 17) hC dX6_readOn_17 rfl ?_
  refine WP.imul (pc := 18) hC dX6_readOn_18 ?_
  refine WP.iln (pc := 19) hC dX6_readOn_19 rfl ?_
  refine WP.iadd (pc := 20) hC dX6_readOn_20 ?_
  refine WP.ishl (pc := 21) hC dX6_readOn_21 ?_
  rw [ppr_eq i hi j hj]
  refine WP.is (lv' := [_, _, _, _, _, _, _]) (pc := 22) hC dX6_readOn_22 rfl (by decide) rfl ?_
  refine WP.aln (pc := 24) hC dX6_readOn_24 rfl ?_
  refine WP.gf (pc := 25) hC dX6_readOn_25 fl_X6_22 (by decide) rfl rfl ?_
  refine WP.il (pc := 28) hC dX6_readOn_28 rfl ?_
  refine WP.iconst (pc := 30) hC dX6_readOn_30 5 (by decide) ?_
  refine WP.iadd (pc := 31) hC dX6_readOn_31 ?_
  rw [show nI (9 * v) + 5 = nI (9 * v + 5) from nI_add _ 5]
  refine WP.il (pc := 32) hC dX6_readOn_32 rfl ?_
  refine WP.ifeq (pc := 34) hC dX6_readOn_34 52 (by decide) (fun h34 => ?_) (fun h34 => ?_)
  · rw [b2_0] at h34
    refine WP.aln (pc := 52) hC dX6_readOn_52 rfl ?_
    refine WP.gf (pc := 53) hC dX6_readOn_53 fl_X6_22 (by decide) rfl rfl ?_
    refine WP.il (pc := 56) hC dX6_readOn_56 rfl ?_
    refine WP.iconst (pc := 58) hC dX6_readOn_58 5 (by decide) ?_
    refine WP.iadd (pc := 59) hC dX6_readOn_59 ?_
    rw [show nI (9 * v) + 5 = nI (9 * v + 5) from nI_add _ 5]
    refine WP.ial (pc := 60) hC dX6_readOn_60 (9 * v + 5) rfl (by omega) (by decide) rfl (by decide) ?_
    refine WP.il (pc := 61) hC dX6_readOn_61 rfl ?_
    refine WP.iconst (pc := 63) hC dX6_readOn_63 (-1) (by decide) ?_
    refine WP.ixor (pc := 64) hC dX6_readOn_64 ?_
    refine WP.iand (pc := 65) hC dX6_readOn_65 ?_
    refine WP.ias (pc := 66) hC dX6_readOn_66 (9 * v + 5) rfl (by omega) (by decide) rfl rfl (by decide) ?_
    refine WP.aln (pc := 67) hC dX6_readOn_67 rfl ?_
    refine WP.gf (pc := 68) hC dX6_readOn_68 fl_X6_22 (by decide) rfl rfl ?_
    refine WP.il (pc := 71) hC dX6_readOn_71 rfl ?_
    refine WP.bipush (pc := 73) hC dX6_readOn_73 6 (by decide) ?_
    refine WP.iadd (pc := 75) hC dX6_readOn_75 ?_
    rw [show nI (9 * v) + 6 = nI (9 * v + 6) from nI_add _ 6]
    refine WP.il (pc := 76) hC dX6_readOn_76 rfl ?_
    refine WP.ifeq (pc := 78) hC dX6_readOn_78 99 (by decide) (fun h78 => ?_) (fun h78 => ?_)
    · rw [b2_0] at h78
      refine WP.aln (pc := 99) hC dX6_readOn_99 rfl ?_
      refine WP.gf (pc := 100) hC dX6_readOn_100 fl_X6_22 (by decide) rfl rfl ?_
      refine WP.il (pc := 103) hC dX6_readOn_103 rfl ?_
      refine WP.bipush (pc := 105) hC dX6_readOn_105 6 (by decide) ?_
      refine WP.iadd (pc := 107) hC dX6_readOn_107 ?_
      rw [show nI (9 * v) + 6 = nI (9 * v + 6) from nI_add _ 6]
      refine WP.ial (pc := 108) hC dX6_readOn_108 (9 * v + 6) rfl (by omega) (by decide) rfl (by decide) ?_
      rw [up2_n _ _ (Or.inr (show 9 * v + 6 ≠ 9 * v + 5 by omega))]
      refine WP.il (pc := 109) hC dX6_readOn_109 rfl ?_
      refine WP.ior (pc := 111) hC dX6_readOn_111 ?_
      refine WP.ias (pc := 112) hC dX6_readOn_112 (9 * v + 6) rfl (by omega) (by decide) rfl rfl (by decide) ?_
      refine WP.aln (pc := 113) hC dX6_readOn_113 rfl ?_
      refine WP.gf (pc := 114) hC dX6_readOn_114 fl_X6_22 (by decide) rfl rfl ?_
      refine WP.il (pc := 117) hC dX6_readOn_117 rfl ?_
      refine WP.iln (pc := 119) hC dX6_readOn_119 rfl ?_
      refine WP.iadd (pc := 120) hC dX6_readOn_120 ?_
      rw [nI_add]
      refine WP.dup2 (pc := 121) hC dX6_readOn_121 rfl rfl ?_
      refine WP.ial (pc := 122) hC dX6_readOn_122 (9 * v + i) rfl (by omega) (by decide) rfl (by decide) ?_
      rw [up2_n _ _ (Or.inr (show 9 * v + i ≠ 9 * v + 6 by omega)), up2_n _ _ (Or.inr (show 9 * v + i ≠ 9 * v + 5 by omega))]
      refine WP.aln (pc := 123) hC dX6_readOn_123 rfl ?_
      refine WP.gf (pc := 124) hC dX6_readOn_124 fl_X6_22 (by decide) rfl rfl ?_
      refine WP.il (pc := 127) hC dX6_readOn_127 rfl ?_
      refine WP.iln (pc := 129) hC dX6_readOn_129 rfl ?_
      refine WP.iadd (pc := 130) hC dX6_readOn_130 ?_
      rw [nI_add]
      refine WP.ial (pc := 131) hC dX6_readOn_131 (9 * v + i) rfl (by omega) (by decide) rfl (by decide) ?_
      rw [up2_n _ _ (Or.inr (show 9 * v + i ≠ 9 * v + 6 by omega)), up2_n _ _ (Or.inr (show 9 * v + i ≠ 9 * v + 5 by omega))]
      refine WP.bipush (pc := 132) hC dX6_readOn_132 9 (by decide) ?_
      refine WP.icge (pc := 134) hC dX6_readOn_134 141 (by decide) (fun h134 => ?_) (fun h134 => ?_)
      · refine WP.iconst (pc := 141) hC dX6_readOn_141 0 (by decide) ?_
        refine WP.iadd (pc := 142) hC dX6_readOn_142 ?_
        refine WP.ias (pc := 143) hC dX6_readOn_143 (9 * v + i) rfl (by omega) (by decide) rfl rfl (by decide) ?_
        refine WP.il (pc := 144) hC dX6_readOn_144 rfl ?_
        refine WP.zret (pc := 146) hC rfl (by first | exact Or.inl rfl | exact Or.inr rfl | exact b2_01 _) dX6_readOn_146 ?_ ?_ ?_
        all_goals (first | rfl | (unfold rdM; rw [if_pos h134]; first | (subst h34; rfl) | (rw [h34] at h78; cases h78)) | (unfold rdM; rw [if_neg h134]; first | (subst h34; rfl) | (rw [h34] at h78; cases h78)))
      · refine WP.iconst (pc := 137) hC dX6_readOn_137 1 (by decide) ?_
        refine WP.goto (pc := 138) hC dX6_readOn_138 142 (by decide) ?_
        refine WP.iadd (pc := 142) hC dX6_readOn_142 ?_
        refine WP.ias (pc := 143) hC dX6_readOn_143 (9 * v + i) rfl (by omega) (by decide) rfl rfl (by decide) ?_
        refine WP.il (pc := 144) hC dX6_readOn_144 rfl ?_
        refine WP.zret (pc := 146) hC rfl (by first | exact Or.inl rfl | exact Or.inr rfl | exact b2_01 _) dX6_readOn_146 ?_ ?_ ?_
        all_goals (first | rfl | (unfold rdM; rw [if_pos h134]; first | (subst h34; rfl) | (rw [h34] at h78; cases h78)) | (unfold rdM; rw [if_neg h134]; first | (subst h34; rfl) | (rw [h34] at h78; cases h78)))
    · rw [b2_n0] at h78
      refine WP.aln (pc := 81) hC dX6_readOn_81 rfl ?_
      refine WP.gf (pc := 82) hC dX6_readOn_82 fl_X6_22 (by decide) rfl rfl ?_
      refine WP.il (pc := 85) hC dX6_readOn_85 rfl ?_
      refine WP.bipush (pc := 87) hC dX6_readOn_87 6 (by decide) ?_
      refine WP.iadd (pc := 89) hC dX6_readOn_89 ?_
      rw [show nI (9 * v) + 6 = nI (9 * v + 6) from nI_add _ 6]
      refine WP.ial (pc := 90) hC dX6_readOn_90 (9 * v + 6) rfl (by omega) (by decide) rfl (by decide) ?_
      rw [up2_n _ _ (Or.inr (show 9 * v + 6 ≠ 9 * v + 5 by omega))]
      refine WP.il (pc := 91) hC dX6_readOn_91 rfl ?_
      refine WP.iconst (pc := 93) hC dX6_readOn_93 (-1) (by decide) ?_
      refine WP.ixor (pc := 94) hC dX6_readOn_94 ?_
      refine WP.iand (pc := 95) hC dX6_readOn_95 ?_
      refine WP.goto (pc := 96) hC dX6_readOn_96 112 (by decide) ?_
      refine WP.ias (pc := 112) hC dX6_readOn_112 (9 * v + 6) rfl (by omega) (by decide) rfl rfl (by decide) ?_
      refine WP.aln (pc := 113) hC dX6_readOn_113 rfl ?_
      refine WP.gf (pc := 114) hC dX6_readOn_114 fl_X6_22 (by decide) rfl rfl ?_
      refine WP.il (pc := 117) hC dX6_readOn_117 rfl ?_
      refine WP.iln (pc := 119) hC dX6_readOn_119 rfl ?_
      refine WP.iadd (pc := 120) hC dX6_readOn_120 ?_
      rw [nI_add]
      refine WP.dup2 (pc := 121) hC dX6_readOn_121 rfl rfl ?_
      refine WP.ial (pc := 122) hC dX6_readOn_122 (9 * v + i) rfl (by omega) (by decide) rfl (by decide) ?_
      rw [up2_n _ _ (Or.inr (show 9 * v + i ≠ 9 * v + 6 by omega)), up2_n _ _ (Or.inr (show 9 * v + i ≠ 9 * v + 5 by omega))]
      refine WP.aln (pc := 123) hC dX6_readOn_123 rfl ?_
      refine WP.gf (pc := 124) hC dX6_readOn_124 fl_X6_22 (by decide) rfl rfl ?_
      refine WP.il (pc := 127) hC dX6_readOn_127 rfl ?_
      refine WP.iln (pc := 129) hC dX6_readOn_129 rfl ?_
      refine WP.iadd (pc := 130) hC dX6_readOn_130 ?_
      rw [nI_add]
      refine WP.ial (pc := 131) hC dX6_readOn_131 (9 * v + i) rfl (by omega) (by decide) rfl (by decide) ?_
      rw [up2_n _ _ (Or.inr (show 9 * v + i ≠ 9 * v + 6 by omega)), up2_n _ _ (Or.inr (show 9 * v + i ≠ 9 * v + 5 by omega))]
      refine WP.bipush (pc := 132) hC dX6_readOn_132 9 (by decide) ?_
      refine WP.icge (pc := 134) hC dX6_readOn_134 141 (by decide) (fun h134 => ?_) (fun h134 => ?_)
      · refine WP.iconst (pc := 141) hC dX6_readOn_141 0 (by decide) ?_
        refine WP.iadd (pc := 142) hC dX6_readOn_142 ?_
        refine WP.ias (pc := 143) hC dX6_readOn_143 (9 * v + i) rfl (by omega) (by decide) rfl rfl (by decide) ?_
        refine WP.il (pc := 144) hC dX6_readOn_144 rfl ?_
        refine WP.zret (pc := 146) hC rfl (by first | exact Or.inl rfl | exact Or.inr rfl | exact b2_01 _) dX6_readOn_146 ?_ ?_ ?_
        all_goals (first | rfl | (unfold rdM; rw [if_pos h134]; first | (subst h34; rfl) | (rw [h34] at h78; cases h78)) | (unfold rdM; rw [if_neg h134]; first | (subst h34; rfl) | (rw [h34] at h78; cases h78)))
      · refine WP.iconst (pc := 137) hC dX6_readOn_137 1 (by decide) ?_
        refine WP.goto (pc := 138) hC dX6_readOn_138 142 (by decide) ?_
        refine WP.iadd (pc := 142) hC dX6_readOn_142 ?_
        refine WP.ias (pc := 143) hC dX6_readOn_143 (9 * v + i) rfl (by omega) (by decide) rfl rfl (by decide) ?_
        refine WP.il (pc := 144) hC dX6_readOn_144 rfl ?_
        refine WP.zret (pc := 146) hC rfl (by first | exact Or.inl rfl | exact Or.inr rfl | exact b2_01 _) dX6_readOn_146 ?_ ?_ ?_
        all_goals (first | rfl | (unfold rdM; rw [if_pos h134]; first | (subst h34; rfl) | (rw [h34] at h78; cases h78)) | (unfold rdM; rw [if_neg h134]; first | (subst h34; rfl) | (rw [h34] at h78; cases h78)))
  · rw [b2_n0] at h34
    refine WP.aln (pc := 37) hC dX6_readOn_37 rfl ?_
    refine WP.gf (pc := 38) hC dX6_readOn_38 fl_X6_22 (by decide) rfl rfl ?_
    refine WP.il (pc := 41) hC dX6_readOn_41 rfl ?_
    refine WP.iconst (pc := 43) hC dX6_readOn_43 5 (by decide) ?_
    refine WP.iadd (pc := 44) hC dX6_readOn_44 ?_
    rw [show nI (9 * v) + 5 = nI (9 * v + 5) from nI_add _ 5]
    refine WP.ial (pc := 45) hC dX6_readOn_45 (9 * v + 5) rfl (by omega) (by decide) rfl (by decide) ?_
    refine WP.il (pc := 46) hC dX6_readOn_46 rfl ?_
    refine WP.ior (pc := 48) hC dX6_readOn_48 ?_
    refine WP.goto (pc := 49) hC dX6_readOn_49 66 (by decide) ?_
    refine WP.ias (pc := 66) hC dX6_readOn_66 (9 * v + 5) rfl (by omega) (by decide) rfl rfl (by decide) ?_
    refine WP.aln (pc := 67) hC dX6_readOn_67 rfl ?_
    refine WP.gf (pc := 68) hC dX6_readOn_68 fl_X6_22 (by decide) rfl rfl ?_
    refine WP.il (pc := 71) hC dX6_readOn_71 rfl ?_
    refine WP.bipush (pc := 73) hC dX6_readOn_73 6 (by decide) ?_
    refine WP.iadd (pc := 75) hC dX6_readOn_75 ?_
    rw [show nI (9 * v) + 6 = nI (9 * v + 6) from nI_add _ 6]
    refine WP.il (pc := 76) hC dX6_readOn_76 rfl ?_
    refine WP.ifeq (pc := 78) hC dX6_readOn_78 99 (by decide) (fun h78 => ?_) (fun h78 => ?_)
    · rw [b2_0] at h78
      refine WP.aln (pc := 99) hC dX6_readOn_99 rfl ?_
      refine WP.gf (pc := 100) hC dX6_readOn_100 fl_X6_22 (by decide) rfl rfl ?_
      refine WP.il (pc := 103) hC dX6_readOn_103 rfl ?_
      refine WP.bipush (pc := 105) hC dX6_readOn_105 6 (by decide) ?_
      refine WP.iadd (pc := 107) hC dX6_readOn_107 ?_
      rw [show nI (9 * v) + 6 = nI (9 * v + 6) from nI_add _ 6]
      refine WP.ial (pc := 108) hC dX6_readOn_108 (9 * v + 6) rfl (by omega) (by decide) rfl (by decide) ?_
      rw [up2_n _ _ (Or.inr (show 9 * v + 6 ≠ 9 * v + 5 by omega))]
      refine WP.il (pc := 109) hC dX6_readOn_109 rfl ?_
      refine WP.ior (pc := 111) hC dX6_readOn_111 ?_
      refine WP.ias (pc := 112) hC dX6_readOn_112 (9 * v + 6) rfl (by omega) (by decide) rfl rfl (by decide) ?_
      refine WP.aln (pc := 113) hC dX6_readOn_113 rfl ?_
      refine WP.gf (pc := 114) hC dX6_readOn_114 fl_X6_22 (by decide) rfl rfl ?_
      refine WP.il (pc := 117) hC dX6_readOn_117 rfl ?_
      refine WP.iln (pc := 119) hC dX6_readOn_119 rfl ?_
      refine WP.iadd (pc := 120) hC dX6_readOn_120 ?_
      rw [nI_add]
      refine WP.dup2 (pc := 121) hC dX6_readOn_121 rfl rfl ?_
      refine WP.ial (pc := 122) hC dX6_readOn_122 (9 * v + i) rfl (by omega) (by decide) rfl (by decide) ?_
      rw [up2_n _ _ (Or.inr (show 9 * v + i ≠ 9 * v + 6 by omega)), up2_n _ _ (Or.inr (show 9 * v + i ≠ 9 * v + 5 by omega))]
      refine WP.aln (pc := 123) hC dX6_readOn_123 rfl ?_
      refine WP.gf (pc := 124) hC dX6_readOn_124 fl_X6_22 (by decide) rfl rfl ?_
      refine WP.il (pc := 127) hC dX6_readOn_127 rfl ?_
      refine WP.iln (pc := 129) hC dX6_readOn_129 rfl ?_
      refine WP.iadd (pc := 130) hC dX6_readOn_130 ?_
      rw [nI_add]
      refine WP.ial (pc := 131) hC dX6_readOn_131 (9 * v + i) rfl (by omega) (by decide) rfl (by decide) ?_
      rw [up2_n _ _ (Or.inr (show 9 * v + i ≠ 9 * v + 6 by omega)), up2_n _ _ (Or.inr (show 9 * v + i ≠ 9 * v + 5 by omega))]
      refine WP.bipush (pc := 132) hC dX6_readOn_132 9 (by decide) ?_
      refine WP.icge (pc := 134) hC dX6_readOn_134 141 (by decide) (fun h134 => ?_) (fun h134 => ?_)
      · refine WP.iconst (pc := 141) hC dX6_readOn_141 0 (by decide) ?_
        refine WP.iadd (pc := 142) hC dX6_readOn_142 ?_
        refine WP.ias (pc := 143) hC dX6_readOn_143 (9 * v + i) rfl (by omega) (by decide) rfl rfl (by decide) ?_
        refine WP.il (pc := 144) hC dX6_readOn_144 rfl ?_
        refine WP.zret (pc := 146) hC rfl (by first | exact Or.inl rfl | exact Or.inr rfl | exact b2_01 _) dX6_readOn_146 ?_ ?_ ?_
        all_goals (first | rfl | (unfold rdM; rw [if_pos h134]; first | (subst h34; rfl) | (rw [h34] at h78; cases h78)) | (unfold rdM; rw [if_neg h134]; first | (subst h34; rfl) | (rw [h34] at h78; cases h78)))
      · refine WP.iconst (pc := 137) hC dX6_readOn_137 1 (by decide) ?_
        refine WP.goto (pc := 138) hC dX6_readOn_138 142 (by decide) ?_
        refine WP.iadd (pc := 142) hC dX6_readOn_142 ?_
        refine WP.ias (pc := 143) hC dX6_readOn_143 (9 * v + i) rfl (by omega) (by decide) rfl rfl (by decide) ?_
        refine WP.il (pc := 144) hC dX6_readOn_144 rfl ?_
        refine WP.zret (pc := 146) hC rfl (by first | exact Or.inl rfl | exact Or.inr rfl | exact b2_01 _) dX6_readOn_146 ?_ ?_ ?_
        all_goals (first | rfl | (unfold rdM; rw [if_pos h134]; first | (subst h34; rfl) | (rw [h34] at h78; cases h78)) | (unfold rdM; rw [if_neg h134]; first | (subst h34; rfl) | (rw [h34] at h78; cases h78)))
    · rw [b2_n0] at h78
      refine WP.aln (pc := 81) hC dX6_readOn_81 rfl ?_
      refine WP.gf (pc := 82) hC dX6_readOn_82 fl_X6_22 (by decide) rfl rfl ?_
      refine WP.il (pc := 85) hC dX6_readOn_85 rfl ?_
      refine WP.bipush (pc := 87) hC dX6_readOn_87 6 (by decide) ?_
      refine WP.iadd (pc := 89) hC dX6_readOn_89 ?_
      rw [show nI (9 * v) + 6 = nI (9 * v + 6) from nI_add _ 6]
      refine WP.ial (pc := 90) hC dX6_readOn_90 (9 * v + 6) rfl (by omega) (by decide) rfl (by decide) ?_
      rw [up2_n _ _ (Or.inr (show 9 * v + 6 ≠ 9 * v + 5 by omega))]
      refine WP.il (pc := 91) hC dX6_readOn_91 rfl ?_
      refine WP.iconst (pc := 93) hC dX6_readOn_93 (-1) (by decide) ?_
      refine WP.ixor (pc := 94) hC dX6_readOn_94 ?_
      refine WP.iand (pc := 95) hC dX6_readOn_95 ?_
      refine WP.goto (pc := 96) hC dX6_readOn_96 112 (by decide) ?_
      refine WP.ias (pc := 112) hC dX6_readOn_112 (9 * v + 6) rfl (by omega) (by decide) rfl rfl (by decide) ?_
      refine WP.aln (pc := 113) hC dX6_readOn_113 rfl ?_
      refine WP.gf (pc := 114) hC dX6_readOn_114 fl_X6_22 (by decide) rfl rfl ?_
      refine WP.il (pc := 117) hC dX6_readOn_117 rfl ?_
      refine WP.iln (pc := 119) hC dX6_readOn_119 rfl ?_
      refine WP.iadd (pc := 120) hC dX6_readOn_120 ?_
      rw [nI_add]
      refine WP.dup2 (pc := 121) hC dX6_readOn_121 rfl rfl ?_
      refine WP.ial (pc := 122) hC dX6_readOn_122 (9 * v + i) rfl (by omega) (by decide) rfl (by decide) ?_
      rw [up2_n _ _ (Or.inr (show 9 * v + i ≠ 9 * v + 6 by omega)), up2_n _ _ (Or.inr (show 9 * v + i ≠ 9 * v + 5 by omega))]
      refine WP.aln (pc := 123) hC dX6_readOn_123 rfl ?_
      refine WP.gf (pc := 124) hC dX6_readOn_124 fl_X6_22 (by decide) rfl rfl ?_
      refine WP.il (pc := 127) hC dX6_readOn_127 rfl ?_
      refine WP.iln (pc := 129) hC dX6_readOn_129 rfl ?_
      refine WP.iadd (pc := 130) hC dX6_readOn_130 ?_
      rw [nI_add]
      refine WP.ial (pc := 131) hC dX6_readOn_131 (9 * v + i) rfl (by omega) (by decide) rfl (by decide) ?_
      rw [up2_n _ _ (Or.inr (show 9 * v + i ≠ 9 * v + 6 by omega)), up2_n _ _ (Or.inr (show 9 * v + i ≠ 9 * v + 5 by omega))]
      refine WP.bipush (pc := 132) hC dX6_readOn_132 9 (by decide) ?_
      refine WP.icge (pc := 134) hC dX6_readOn_134 141 (by decide) (fun h134 => ?_) (fun h134 => ?_)
      · refine WP.iconst (pc := 141) hC dX6_readOn_141 0 (by decide) ?_
        refine WP.iadd (pc := 142) hC dX6_readOn_142 ?_
        refine WP.ias (pc := 143) hC dX6_readOn_143 (9 * v + i) rfl (by omega) (by decide) rfl rfl (by decide) ?_
        refine WP.il (pc := 144) hC dX6_readOn_144 rfl ?_
        refine WP.zret (pc := 146) hC rfl (by first | exact Or.inl rfl | exact Or.inr rfl | exact b2_01 _) dX6_readOn_146 ?_ ?_ ?_
        all_goals (first | rfl | (unfold rdM; rw [if_pos h134]; first | (subst h34; rfl) | (rw [h34] at h78; cases h78)) | (unfold rdM; rw [if_neg h134]; first | (subst h34; rfl) | (rw [h34] at h78; cases h78)))
      · refine WP.iconst (pc := 137) hC dX6_readOn_137 1 (by decide) ?_
        refine WP.goto (pc := 138) hC dX6_readOn_138 142 (by decide) ?_
        refine WP.iadd (pc := 142) hC dX6_readOn_142 ?_
        refine WP.ias (pc := 143) hC dX6_readOn_143 (9 * v + i) rfl (by omega) (by decide) rfl rfl (by decide) ?_
        refine WP.il (pc := 144) hC dX6_readOn_144 rfl ?_
        refine WP.zret (pc := 146) hC rfl (by first | exact Or.inl rfl | exact Or.inr rfl | exact b2_01 _) dX6_readOn_146 ?_ ?_ ?_
        all_goals (first | rfl | (unfold rdM; rw [if_pos h134]; first | (subst h34; rfl) | (rw [h34] at h78; cases h78)) | (unfold rdM; rw [if_neg h134]; first | (subst h34; rfl) | (rw [h34] at h78; cases h78)))
