/-! ===== Bench ===== -/
theorem nI4 (i : Nat) : (4 : Int32) * nI i = nI (4 * i) := pk_mul 4 i
def clrB (F : FF) (b : Nat) : FF := up2 (up2 (up2 (up2 (up2 F b 0 0) b 1 0) b 2 0) b 3 1) b 4 1
def cpB (F : FF) (b c : Nat) : FF := up2 (up2 (up2 (up2 (up2 F b 0 (F c 0)) b 1 (F c 1)) b 2 (F c 2)) b 3 (F c 3)) b 4 (F c 4)
def ppr (i j : Nat) : Int32 := nI (2 ^ (4 * i + j))
def mskS (j : Nat) : Int32 := nI (69905 * 2 ^ j)
theorem ppr_eq : ∀ i, i < 5 → ∀ j, j < 4 → (1 : Int32) <<< ((4 * nI i + nI j) &&& 31) = ppr i j := by decide
theorem msk_eq : ∀ j, j < 4 → (69905 : Int32) <<< (nI j &&& 31) = mskS j := by decide
theorem sh5 : ∀ i, i < 6 → (1 : Int32) <<< (nI i &&& 31) = nI (2 ^ i) := by decide
def prN (p : Int32) (j : Nat) : Nat → Int32
  | 0 => 0
  | n + 1 => if p &&& ppr n j = 0 then prN p j n else prN p j n ||| nI (2 ^ n)
def rdg (x : Int32) (i : Nat) : Int32 := (x >>> (nI (4 * i) &&& 31)) &&& 15
def setR (x : Int32) (i : Nat) (v : Int32) : Int32 := (x &&& (((15 : Int32) <<< (nI (4 * i) &&& 31)) ^^^ (-1))) ||| (v <<< (nI (4 * i) &&& 31))
/-- a bench: its number, its two truths -/
def BB (F : FF) (b : Nat) (p t : Bool) : Prop := 19 ≤ b ∧ b < 37 ∧ F b 3 = b2 p ∧ F b 4 = b2 t
def rgN (F : FF) (b : Nat) : Nat → Int32
  | 0 => 0
  | s + 1 => rgN F b s + bcI ((if 0 < F 7 s then F b 0 else F b 1) &&& mskS s)
def yesAt (F : FF) (b i j : Nat) (p t : Bool) : Bool := saysB (F 6 i) (F 5 i) (sees (F 6 i) (F 4 i) (lits p (F 7 j)) (rdg (F b 2) i) t)
def inc9 (v : Int32) : Int32 := if v + 1 < 9 then v + 1 else 9
def dpB (F : FF) (b : Nat) (q : Int32) : FF := up2 (up2 F b 0 (F b 0 &&& (q ^^^ (-1)))) b 1 (F b 1 &&& (q ^^^ (-1)))
def tkR (F : FF) (b i j : Nat) (yes : Bool) : FF := up2 (up2 (up2 F b 2 (setR (F b 2) i (inc9 (rdg (F b 2) i)))) b 0 ((F b 0 &&& (ppr i j ^^^ (-1))) ||| (if yes = true then ppr i j else 0))) b 1 ((F b 1 &&& (ppr i j ^^^ (-1))) ||| (if yes = true then 0 else ppr i j))

theorem up2_same (F : FF) (i j : Nat) (v w : Int32) : up2 (up2 F i j v) i j w = up2 F i j w := by
  funext a c
  simp only [up2_at]
  split <;> rfl
theorem up2_comm (F : FF) {i j a c : Nat} (v w : Int32) (h : i ≠ a ∨ j ≠ c) : up2 (up2 F i j v) a c w = up2 (up2 F a c w) i j v := by
  funext x y
  simp only [up2_at]
  by_cases h1 : x = a ∧ y = c
  · by_cases h2 : x = i ∧ y = j
    · omega
    · simp [h1, h2]
      intro q1 q2
      omega
  · simp [h1]
theorem tk_lem (F : FF) (b : Nat) (v q A C : Int32) : up2 (up2 (dpB (up2 F b 2 v) b q) b 0 (dpB (up2 F b 2 v) b q b 0 ||| A)) b 1 (up2 (dpB (up2 F b 2 v) b q) b 0 (dpB (up2 F b 2 v) b q b 0 ||| A) b 1 ||| C) = up2 (up2 (up2 F b 2 v) b 0 ((F b 0 &&& (q ^^^ (-1))) ||| A)) b 1 ((F b 1 &&& (q ^^^ (-1))) ||| C) := by
  have e0 : dpB (up2 F b 2 v) b q b 0 = F b 0 &&& (q ^^^ (-1)) := by simp [dpB, up2_at]
  have e1 : ∀ z, up2 (dpB (up2 F b 2 v) b q) b 0 z b 1 = F b 1 &&& (q ^^^ (-1)) := by intro z; simp [dpB, up2_at]
  rw [e1, e0]
  unfold dpB
  rw [up2_comm _ _ _ (show b ≠ b ∨ 1 ≠ 0 from Or.inr (by decide)), up2_same, up2_same]
set_option maxHeartbeats 4000000 in
theorem k_X1_clear (l : Launch) (F : FF) (L : Int64) (b : Nat) (hb : 19 ≤ b ∧ b < 37) : CV l yX1_clear cX1_clear 1 none (rmx 0 0) wN [.ref b] F L (clrB F b) L := by
  refine mkV [some (.ref b)] 0 (by decide) rfl (Nat.le_of_ble_eq_true rfl) ?_
  intro x d hx hC
  subst hx
  have hC : Cx x cX1_clear 1 RX1 none (rmx 0 0) wN d := hC
  refine WP.aln (pc := 0) hC dX1_clear_0 rfl ?_
  refine WP.iconst (pc := 1) hC dX1_clear_1 0 (by decide) ?_
  refine WP.pf (pc := 2) hC dX1_clear_2 fp_X1_18 rfl rfl (show b < wN.2 from hb.2) (cw_b hb.1 _ _) (cw_b hb.1 _ _) (Nat.le_of_ble_eq_true rfl) ?_
  refine WP.aln (pc := 5) hC dX1_clear_5 rfl ?_
  refine WP.iconst (pc := 6) hC dX1_clear_6 0 (by decide) ?_
  refine WP.pf (pc := 7) hC dX1_clear_7 fp_X1_22 rfl rfl (show b < wN.2 from hb.2) (cw_b hb.1 _ _) (cw_b hb.1 _ _) (Nat.le_of_ble_eq_true rfl) ?_
  refine WP.aln (pc := 10) hC dX1_clear_10 rfl ?_
  refine WP.iconst (pc := 11) hC dX1_clear_11 0 (by decide) ?_
  refine WP.pf (pc := 12) hC dX1_clear_12 fp_X1_25 rfl rfl (show b < wN.2 from hb.2) (cw_b hb.1 _ _) (cw_b hb.1 _ _) (Nat.le_of_ble_eq_true rfl) ?_
  refine WP.aln (pc := 15) hC dX1_clear_15 rfl ?_
  refine WP.iconst (pc := 16) hC dX1_clear_16 1 (by decide) ?_
  refine WP.pf (pc := 17) hC dX1_clear_17 fp_X1_9 (nar_z (by first | exact Or.inl rfl | exact Or.inr rfl | exact b2_01 _)).2.1 (nar_z (by first | exact Or.inl rfl | exact Or.inr rfl | exact b2_01 _)).2.2 (show b < wN.2 from hb.2) (cw_b hb.1 _ _) (cw_b hb.1 _ _) (Nat.le_of_ble_eq_true rfl) ?_
  refine WP.aln (pc := 20) hC dX1_clear_20 rfl ?_
  refine WP.iconst (pc := 21) hC dX1_clear_21 1 (by decide) ?_
  refine WP.pf (pc := 22) hC dX1_clear_22 fp_X1_15 (nar_z (by first | exact Or.inl rfl | exact Or.inr rfl | exact b2_01 _)).2.1 (nar_z (by first | exact Or.inl rfl | exact Or.inr rfl | exact b2_01 _)).2.2 (show b < wN.2 from hb.2) (cw_b hb.1 _ _) (cw_b hb.1 _ _) (Nat.le_of_ble_eq_true rfl) ?_
  refine WP.vret (pc := 25) hC rfl dX1_clear_25 ?_ ?_
  all_goals (rfl)
set_option maxHeartbeats 4000000 in
theorem k_X1_copyFrom (l : Launch) (F : FF) (L : Int64) (b c : Nat) (hb : 19 ≤ b ∧ b < 37) (hc9 : 19 ≤ c ∧ c < 37) (hne : c ≠ b) (hz3 : F c 3 = 0 ∨ F c 3 = 1) (hz4 : F c 4 = 0 ∨ F c 4 = 1) : CV l yX1_copyFrom cX1_copyFrom 2 none (rmx 0 0) wN [.ref b, .ref c] F L (cpB F b c) L := by
  refine mkV [some (.ref b), some (.ref c)] 0 (by decide) rfl (Nat.le_of_ble_eq_true rfl) ?_
  intro x d hx hC
  subst hx
  have hC : Cx x cX1_copyFrom 2 RX1 none (rmx 0 0) wN d := hC
  refine WP.aln (pc := 0) hC dX1_copyFrom_0 rfl ?_
  refine WP.aln (pc := 1) hC dX1_copyFrom_1 rfl ?_
  refine WP.gf (pc := 2) hC dX1_copyFrom_2 fl_X1_18 (show c < wN.2 from hc9.2) (cw_b hc9.1 _ _) rfl ?_
  refine WP.pf (pc := 5) hC dX1_copyFrom_5 fp_X1_18 rfl rfl (show b < wN.2 from hb.2) (cw_b hb.1 _ _) (cw_b hb.1 _ _) (Nat.le_of_ble_eq_true rfl) ?_
  refine WP.aln (pc := 8) hC dX1_copyFrom_8 rfl ?_
  refine WP.aln (pc := 9) hC dX1_copyFrom_9 rfl ?_
  refine WP.gf (pc := 10) hC dX1_copyFrom_10 fl_X1_22 (show c < wN.2 from hc9.2) (cw_b hc9.1 _ _) rfl ?_
  rw [up2_n _ _ (Or.inl hne)]
  refine WP.pf (pc := 13) hC dX1_copyFrom_13 fp_X1_22 rfl rfl (show b < wN.2 from hb.2) (cw_b hb.1 _ _) (cw_b hb.1 _ _) (Nat.le_of_ble_eq_true rfl) ?_
  refine WP.aln (pc := 16) hC dX1_copyFrom_16 rfl ?_
  refine WP.aln (pc := 17) hC dX1_copyFrom_17 rfl ?_
  refine WP.gf (pc := 18) hC dX1_copyFrom_18 fl_X1_25 (show c < wN.2 from hc9.2) (cw_b hc9.1 _ _) rfl ?_
  rw [up2_n _ _ (Or.inl hne), up2_n _ _ (Or.inl hne)]
  refine WP.pf (pc := 21) hC dX1_copyFrom_21 fp_X1_25 rfl rfl (show b < wN.2 from hb.2) (cw_b hb.1 _ _) (cw_b hb.1 _ _) (Nat.le_of_ble_eq_true rfl) ?_
  refine WP.aln (pc := 24) hC dX1_copyFrom_24 rfl ?_
  refine WP.aln (pc := 25) hC dX1_copyFrom_25 rfl ?_
  refine WP.gf (pc := 26) hC dX1_copyFrom_26 fl_X1_9 (show c < wN.2 from hc9.2) (cw_b hc9.1 _ _) rfl ?_
  rw [up2_n _ _ (Or.inl hne), up2_n _ _ (Or.inl hne), up2_n _ _ (Or.inl hne)]
  refine WP.pf (pc := 29) hC dX1_copyFrom_29 fp_X1_9 (nar_z hz3).2.1 (nar_z hz3).2.2 (show b < wN.2 from hb.2) (cw_b hb.1 _ _) (cw_b hb.1 _ _) (Nat.le_of_ble_eq_true rfl) ?_
  refine WP.aln (pc := 32) hC dX1_copyFrom_32 rfl ?_
  refine WP.aln (pc := 33) hC dX1_copyFrom_33 rfl ?_
  refine WP.gf (pc := 34) hC dX1_copyFrom_34 fl_X1_15 (show c < wN.2 from hc9.2) (cw_b hc9.1 _ _) rfl ?_
  rw [up2_n _ _ (Or.inl hne), up2_n _ _ (Or.inl hne), up2_n _ _ (Or.inl hne), up2_n _ _ (Or.inl hne)]
  refine WP.pf (pc := 37) hC dX1_copyFrom_37 fp_X1_15 (nar_z hz4).2.1 (nar_z hz4).2.2 (show b < wN.2 from hb.2) (cw_b hb.1 _ _) (cw_b hb.1 _ _) (Nat.le_of_ble_eq_true rfl) ?_
  refine WP.vret (pc := 40) hC rfl dX1_copyFrom_40 ?_ ?_
  all_goals (rfl)
set_option maxHeartbeats 4000000 in
theorem k_X1_paper (l : Launch) (F : FF) (L : Int64) (wd : WD) (i j : Nat) (hi : i < 5) (hj : j < 4) : CI l yX1_paper cX1_paper 2 (some .int) (rmx 0 0) wd [.int (nI i), .int (nI j)] F L (ppr i j) F L := by
  refine mkI [some (.int (nI i)), some (.int (nI j))] 0 (by decide) rfl (Nat.le_of_ble_eq_true rfl) ?_
  intro x d hx hC
  subst hx
  have hC : Cx x cX1_paper 2 RX1 (some .int) (rmx 0 0) wd d := hC
  refine WP.iconst (pc := 0) hC dX1_paper_0 1 (by decide) ?_
  refine WP.iconst (pc := 1) hC dX1_paper_1 4 (by decide) ?_
  refine WP.iln (pc := 2) hC dX1_paper_2 rfl ?_
  refine WP.imul (pc := 3) hC dX1_paper_3 ?_
  refine WP.iln (pc := 4) hC dX1_paper_4 rfl ?_
  refine WP.iadd (pc := 5) hC dX1_paper_5 ?_
  refine WP.ishl (pc := 6) hC dX1_paper_6 ?_
  refine WP.iret (pc := 7) hC rfl dX1_paper_7 ?_ ?_ ?_
  all_goals (first | rfl | exact ppr_eq i hi j hj)
set_option maxHeartbeats 4000000 in
theorem k_X1_onSample (l : Launch) (F : FF) (L : Int64) (wd : WD) (p : Int32) (j : Nat) (hj : j < 4) : CI l yX1_onSample cX1_onSample 2 (some .int) (rmx 0 0) wd [.int p, .int (nI j)] F L (p &&& mskS j) F L := by
  refine mkI [some (.int p), some (.int (nI j))] 0 (by decide) rfl (Nat.le_of_ble_eq_true rfl) ?_
  intro x d hx hC
  subst hx
  have hC : Cx x cX1_onSample 2 RX1 (some .int) (rmx 0 0) wd d := hC
  refine WP.iln (pc := 0) hC dX1_onSample_0 rfl ?_
  refine WP.ldc (pc := 1) hC dX1_onSample_1 cs_X1_28 ?_
  refine WP.iln (pc := 3) hC dX1_onSample_3 rfl ?_
  refine WP.ishl (pc := 4) hC dX1_onSample_4 ?_
  refine WP.iand (pc := 5) hC dX1_onSample_5 ?_
  refine WP.iret (pc := 6) hC rfl dX1_onSample_6 ?_ ?_ ?_
  all_goals (first | rfl | (rw [msk_eq j hj]))
set_option maxHeartbeats 4000000 in
theorem k_X1_printers (l : Launch) (F : FF) (L : Int64) (wd : WD) (p : Int32) (j : Nat) (hj : j < 4) : CI l yX1_printers cX1_printers 4 (some .int) (rmx 1 21) wd [.int p, .int (nI j)] F L (prN p j 5) F L := by
  refine mkI [some (.int p), some (.int (nI j)), none, none] 2 (by decide) rfl (Nat.le_of_ble_eq_true rfl) ?_
  intro x d hx hC
  subst hx
  have hC : Cx x cX1_printers 4 RX1 (some .int) (rmx 1 21) wd d := hC
  have loop : ∀ i, i ≤ 5 → ∀ a : Int32, a = prN p j i → WP x 4 wd d (QI x wd d (prN p j 5) F L) 4 [some (.int p), some (.int (nI j)), some (.int a), some (.int (nI i))] [] F L := by
    refine loop_c (n := 5) (P := fun i => ∀ a : Int32, a = prN p j i → WP x 4 wd d (QI x wd d (prN p j 5) F L) 4 [some (.int p), some (.int (nI j)), some (.int a), some (.int (nI i))] [] F L) ?_
    intro i hi ih a ha
    refine WP.iln (pc := 4) hC dX1_printers_4 rfl ?_
    refine WP.iconst (pc := 5) hC dX1_printers_5 5 (by decide) ?_
    refine WP.icge (pc := 6) hC dX1_printers_6 31 (by decide) (fun h6 => ?_) (fun h6 => ?_)
    · have hi5 : i = 5 := by
        have := (nI_leI (a := 5) (by decide) (by omega)).mp h6
        omega
      subst hi5
      refine WP.iln (pc := 31) hC dX1_printers_31 rfl ?_
      refine WP.iret (pc := 32) hC rfl dX1_printers_32 ?_ ?_ ?_
      all_goals (first | rfl | exact ha)
    · have hi5 : i < 5 := (nI_ltI (b := 5) (by omega) (by decide)).mp (i_nle.mp h6)
      have hv := ih hi5
      refine WP.iln (pc := 9) hC dX1_printers_9 rfl ?_
      refine WP.iln (pc := 10) hC dX1_printers_10 rfl ?_
      refine WP.iln (pc := 11) hC dX1_printers_11 rfl ?_
      refine WP.callSI (pc := 12) hC dX1_printers_12 (k_X1_paper _ F L wd i j (by omega) hj) ml_X1_29 rfl rfl (Nat.le_of_ble_eq_true rfl) ⟨by decide, by decide⟩ ?_
      refine WP.iand (pc := 15) hC dX1_printers_15 ?_
      refine WP.ifeq (pc := 16) hC dX1_printers_16 25 (by decide) (fun h16 => ?_) (fun h16 => ?_)
      · refine WP.iinc (lv' := [_, _, _, _]) (pc := 25) hC dX1_printers_25 rfl (_ + 1) rfl rfl (by decide) rfl ?_
        refine WP.goto (pc := 28) hC dX1_printers_28 4 (by decide) ?_
        first | (rw [nIp1]; exact hv _ (by rw [prN, if_pos h16, ha])) | (rw [nIp1]; exact hv _ (by rw [prN, if_neg h16, ha]))
      · refine WP.iln (pc := 19) hC dX1_printers_19 rfl ?_
        refine WP.iconst (pc := 20) hC dX1_printers_20 1 (by decide) ?_
        refine WP.iln (pc := 21) hC dX1_printers_21 rfl ?_
        refine WP.ishl (pc := 22) hC dX1_printers_22 ?_
        rw [sh5 i (by omega)]
        refine WP.ior (pc := 23) hC dX1_printers_23 ?_
        refine WP.isn (lv' := [_, _, _, _]) (pc := 24) hC dX1_printers_24 rfl (by decide) rfl ?_
        refine WP.iinc (lv' := [_, _, _, _]) (pc := 25) hC dX1_printers_25 rfl (_ + 1) rfl rfl (by decide) rfl ?_
        refine WP.goto (pc := 28) hC dX1_printers_28 4 (by decide) ?_
        first | (rw [nIp1]; exact hv _ (by rw [prN, if_pos h16, ha])) | (rw [nIp1]; exact hv _ (by rw [prN, if_neg h16, ha]))
  refine WP.iconst (pc := 0) hC dX1_printers_0 0 (by decide) ?_
  refine WP.isn (lv' := [_, _, _, _]) (pc := 1) hC dX1_printers_1 rfl (by decide) rfl ?_
  refine WP.iconst (pc := 2) hC dX1_printers_2 0 (by decide) ?_
  refine WP.isn (lv' := [_, _, _, _]) (pc := 3) hC dX1_printers_3 rfl (by decide) rfl ?_
  exact loop 0 (by decide) 0 rfl
set_option maxHeartbeats 4000000 in
theorem k_X1_allPapers (l : Launch) (F : FF) (L : Int64) (b : Nat) (hb : 19 ≤ b ∧ b < 37) : CI l yX1_allPapers cX1_allPapers 1 (some .int) (rmx 0 0) wN [.ref b] F L (F b 0 ||| F b 1) F L := by
  refine mkI [some (.ref b)] 0 (by decide) rfl (Nat.le_of_ble_eq_true rfl) ?_
  intro x d hx hC
  subst hx
  have hC : Cx x cX1_allPapers 1 RX1 (some .int) (rmx 0 0) wN d := hC
  refine WP.aln (pc := 0) hC dX1_allPapers_0 rfl ?_
  refine WP.gf (pc := 1) hC dX1_allPapers_1 fl_X1_18 (show b < wN.2 from hb.2) (cw_b hb.1 _ _) rfl ?_
  refine WP.aln (pc := 4) hC dX1_allPapers_4 rfl ?_
  refine WP.gf (pc := 5) hC dX1_allPapers_5 fl_X1_22 (show b < wN.2 from hb.2) (cw_b hb.1 _ _) rfl ?_
  refine WP.ior (pc := 8) hC dX1_allPapers_8 ?_
  refine WP.iret (pc := 9) hC rfl dX1_allPapers_9 ?_ ?_ ?_
  all_goals (rfl)
set_option maxHeartbeats 4000000 in
theorem k_X1_paperCount (l : Launch) (F : FF) (L : Int64) (b : Nat) (hb : 19 ≤ b ∧ b < 37) : CI l yX1_paperCount cX1_paperCount 1 (some .int) (rmx 1 20) wN [.ref b] F L (bcI (F b 0 ||| F b 1)) F L := by
  refine mkI [some (.ref b)] 0 (by decide) rfl (Nat.le_of_ble_eq_true rfl) ?_
  intro x d hx hC
  subst hx
  have hC : Cx x cX1_paperCount 1 RX1 (some .int) (rmx 1 20) wN d := hC
  refine WP.aln (pc := 0) hC dX1_paperCount_0 rfl ?_
  refine WP.callVI (pc := 1) hC dX1_paperCount_1 (k_X1_allPapers _ F L b hb) ml_X1_33 rfl rfl (show b < wN.2 from hb.2) (cw_b hb.1 _ _) (Nat.le_of_ble_eq_true rfl) ⟨by decide, by decide⟩ ?_
  refine WP.callSI (pc := 4) hC dX1_paperCount_4 (k_J6_bitCount_0f7a4 _ F L wN _) ml_X1_37 rfl rfl (Nat.le_of_ble_eq_true rfl) ⟨by decide, by decide⟩ ?_
  refine WP.iret (pc := 7) hC rfl dX1_paperCount_7 ?_ ?_ ?_
  all_goals (rfl)
set_option maxHeartbeats 4000000 in
theorem k_X1_readingsOf (l : Launch) (F : FF) (L : Int64) (b i : Nat) (hb : 19 ≤ b ∧ b < 37) : CI l yX1_readingsOf cX1_readingsOf 2 (some .int) (rmx 0 0) wN [.ref b, .int (nI i)] F L (rdg (F b 2) i) F L := by
  refine mkI [some (.ref b), some (.int (nI i))] 0 (by decide) rfl (Nat.le_of_ble_eq_true rfl) ?_
  intro x d hx hC
  subst hx
  have hC : Cx x cX1_readingsOf 2 RX1 (some .int) (rmx 0 0) wN d := hC
  refine WP.aln (pc := 0) hC dX1_readingsOf_0 rfl ?_
  refine WP.gf (pc := 1) hC dX1_readingsOf_1 fl_X1_25 (show b < wN.2 from hb.2) (cw_b hb.1 _ _) rfl ?_
  refine WP.iconst (pc := 4) hC dX1_readingsOf_4 4 (by decide) ?_
  refine WP.iln (pc := 5) hC dX1_readingsOf_5 rfl ?_
  refine WP.imul (pc := 6) hC dX1_readingsOf_6 ?_
  rw [nI4]
  refine WP.ishr (pc := 7) hC dX1_readingsOf_7 ?_
  refine WP.bipush (pc := 8) hC dX1_readingsOf_8 15 (by decide) ?_
  refine WP.iand (pc := 10) hC dX1_readingsOf_10 ?_
  refine WP.iret (pc := 11) hC rfl dX1_readingsOf_11 ?_ ?_ ?_
  all_goals (rfl)
set_option maxHeartbeats 4000000 in
theorem k_X1_setReadings (l : Launch) (F : FF) (L : Int64) (b i : Nat) (v : Int32) (hb : 19 ≤ b ∧ b < 37) : CV l yX1_setReadings cX1_setReadings 3 none (rmx 0 0) wN [.ref b, .int (nI i), .int v] F L (up2 F b 2 (setR (F b 2) i v)) L := by
  refine mkV [some (.ref b), some (.int (nI i)), some (.int v)] 0 (by decide) rfl (Nat.le_of_ble_eq_true rfl) ?_
  intro x d hx hC
  subst hx
  have hC : Cx x cX1_setReadings 3 RX1 none (rmx 0 0) wN d := hC
  refine WP.aln (pc := 0) hC dX1_setReadings_0 rfl ?_
  refine WP.aln (pc := 1) hC dX1_setReadings_1 rfl ?_
  refine WP.gf (pc := 2) hC dX1_setReadings_2 fl_X1_25 (show b < wN.2 from hb.2) (cw_b hb.1 _ _) rfl ?_
  refine WP.bipush (pc := 5) hC dX1_setReadings_5 15 (by decide) ?_
  refine WP.iconst (pc := 7) hC dX1_setReadings_7 4 (by decide) ?_
  refine WP.iln (pc := 8) hC dX1_setReadings_8 rfl ?_
  refine WP.imul (pc := 9) hC dX1_setReadings_9 ?_
  rw [nI4]
  refine WP.ishl (pc := 10) hC dX1_setReadings_10 ?_
  refine WP.iconst (pc := 11) hC dX1_setReadings_11 (-1) (by decide) ?_
  refine WP.ixor (pc := 12) hC dX1_setReadings_12 ?_
  refine WP.iand (pc := 13) hC dX1_setReadings_13 ?_
  refine WP.iln (pc := 14) hC dX1_setReadings_14 rfl ?_
  refine WP.iconst (pc := 15) hC dX1_setReadings_15 4 (by decide) ?_
  refine WP.iln (pc := 16) hC dX1_setReadings_16 rfl ?_
  refine WP.imul (pc := 17) hC dX1_setReadings_17 ?_
  rw [nI4]
  refine WP.ishl (pc := 18) hC dX1_setReadings_18 ?_
  refine WP.ior (pc := 19) hC dX1_setReadings_19 ?_
  refine WP.pf (pc := 20) hC dX1_setReadings_20 fp_X1_25 rfl rfl (show b < wN.2 from hb.2) (cw_b hb.1 _ _) (cw_b hb.1 _ _) (Nat.le_of_ble_eq_true rfl) ?_
  refine WP.vret (pc := 23) hC rfl dX1_setReadings_23 ?_ ?_
  all_goals (rfl)
set_option maxHeartbeats 4000000 in
theorem k_X1_dropPaper (l : Launch) (F : FF) (L : Int64) (b : Nat) (q : Int32) (hb : 19 ≤ b ∧ b < 37) : CV l yX1_dropPaper cX1_dropPaper 2 none (rmx 0 0) wN [.ref b, .int q] F L (dpB F b q) L := by
  refine mkV [some (.ref b), some (.int q)] 0 (by decide) rfl (Nat.le_of_ble_eq_true rfl) ?_
  intro x d hx hC
  subst hx
  have hC : Cx x cX1_dropPaper 2 RX1 none (rmx 0 0) wN d := hC
  refine WP.aln (pc := 0) hC dX1_dropPaper_0 rfl ?_
  refine WP.dup (pc := 1) hC dX1_dropPaper_1 rfl ?_
  refine WP.gf (pc := 2) hC dX1_dropPaper_2 fl_X1_18 (show b < wN.2 from hb.2) (cw_b hb.1 _ _) rfl ?_
  refine WP.iln (pc := 5) hC dX1_dropPaper_5 rfl ?_
  refine WP.iconst (pc := 6) hC dX1_dropPaper_6 (-1) (by decide) ?_
  refine WP.ixor (pc := 7) hC dX1_dropPaper_7 ?_
  refine WP.iand (pc := 8) hC dX1_dropPaper_8 ?_
  refine WP.pf (pc := 9) hC dX1_dropPaper_9 fp_X1_18 rfl rfl (show b < wN.2 from hb.2) (cw_b hb.1 _ _) (cw_b hb.1 _ _) (Nat.le_of_ble_eq_true rfl) ?_
  refine WP.aln (pc := 12) hC dX1_dropPaper_12 rfl ?_
  refine WP.dup (pc := 13) hC dX1_dropPaper_13 rfl ?_
  refine WP.gf (pc := 14) hC dX1_dropPaper_14 fl_X1_22 (show b < wN.2 from hb.2) (cw_b hb.1 _ _) rfl ?_
  rw [up2_n (a := b) (b := 1) F _ (Or.inr (by decide))]
  refine WP.iln (pc := 17) hC dX1_dropPaper_17 rfl ?_
  refine WP.iconst (pc := 18) hC dX1_dropPaper_18 (-1) (by decide) ?_
  refine WP.ixor (pc := 19) hC dX1_dropPaper_19 ?_
  refine WP.iand (pc := 20) hC dX1_dropPaper_20 ?_
  refine WP.pf (pc := 21) hC dX1_dropPaper_21 fp_X1_22 rfl rfl (show b < wN.2 from hb.2) (cw_b hb.1 _ _) (cw_b hb.1 _ _) (Nat.le_of_ble_eq_true rfl) ?_
  refine WP.vret (pc := 24) hC rfl dX1_dropPaper_24 ?_ ?_
  all_goals (rfl)
set_option maxHeartbeats 4000000 in
theorem k_X1_rightPapers (l : Launch) (F : FF) (L : Int64) (b nr ns : Nat) (hb : 19 ≤ b ∧ b < 37) (hN : NR F nr ns) : CI l yX1_rightPapers cX1_rightPapers 4 (some .int) (rmx 2 42) wN [.ref b, .ref 3] F L (rgN F b ns) F L := by
  refine mkI [some (.ref b), some (.ref 3), none, none] 2 (by decide) rfl (Nat.le_of_ble_eq_true rfl) ?_
  intro x d hx hC
  subst hx
  have hC : Cx x cX1_rightPapers 4 RX1 (some .int) (rmx 2 42) wN d := hC
  have hs4 := hN.2.2.2
  have loop : ∀ s, s ≤ ns → ∀ a : Int32, a = rgN F b s → WP x 4 wN d (QI x wN d (rgN F b ns) F L) 4 [some (.ref b), some (.ref 3), some (.int a), some (.int (nI s))] [] F L := by
    refine loop_c (n := ns) (P := fun s => ∀ a : Int32, a = rgN F b s → WP x 4 wN d (QI x wN d (rgN F b ns) F L) 4 [some (.ref b), some (.ref 3), some (.int a), some (.int (nI s))] [] F L) ?_
    intro s hs0 ih a ha
    refine WP.iln (pc := 4) hC dX1_rightPapers_4 rfl ?_
    refine WP.aln (pc := 5) hC dX1_rightPapers_5 rfl ?_
    refine WP.gf (pc := 6) hC dX1_rightPapers_6 fl_X1_43 (by decide) rfl rfl ?_
    refine WP.icge (pc := 9) hC dX1_rightPapers_9 47 (by decide) (fun h9 => ?_) (fun h9 => ?_)
    · have hs5 : s = ns := by
        have h9 := h9
        rw [hN.2.1] at h9
        have := (nI_leI (by omega) (by omega)).mp h9
        omega
      subst hs5
      refine WP.iln (pc := 47) hC dX1_rightPapers_47 rfl ?_
      refine WP.iret (pc := 48) hC rfl dX1_rightPapers_48 ?_ ?_ ?_
      all_goals (first | rfl | exact ha)
    · have hs : s < ns := by
        have h9 := h9
        rw [hN.2.1] at h9
        exact (nI_ltI (by omega) (by omega)).mp (i_nle.mp h9)
      have hv := ih hs
      refine WP.iln (pc := 12) hC dX1_rightPapers_12 rfl ?_
      refine WP.aln (pc := 13) hC dX1_rightPapers_13 rfl ?_
      refine WP.iln (pc := 14) hC dX1_rightPapers_14 rfl ?_
      refine WP.callVI (pc := 15) hC dX1_rightPapers_15 (k_X3_isBright _ F L nr ns s hN hs) ml_X1_48 rfl rfl (by decide) rfl (Nat.le_of_ble_eq_true rfl) ⟨by decide, by decide⟩ ?_
      refine WP.ifeq (pc := 18) hC dX1_rightPapers_18 28 (by decide) (fun h18 => ?_) (fun h18 => ?_)
      · rw [b2_0, decide_eq_false_iff_not] at h18
        refine WP.aln (pc := 28) hC dX1_rightPapers_28 rfl ?_
        refine WP.gf (pc := 29) hC dX1_rightPapers_29 fl_X1_22 (show b < wN.2 from hb.2) (cw_b hb.1 _ _) rfl ?_
        refine WP.iln (pc := 32) hC dX1_rightPapers_32 rfl ?_
        refine WP.callSI (pc := 33) hC dX1_rightPapers_33 (k_X1_onSample _ F L wN _ s (by omega)) ml_X1_52 rfl rfl (Nat.le_of_ble_eq_true rfl) ⟨by decide, by decide⟩ ?_
        refine WP.callSI (pc := 36) hC dX1_rightPapers_36 (k_J6_bitCount_0f7a4 _ F L wN _) ml_X1_37 rfl rfl (Nat.le_of_ble_eq_true rfl) ⟨by decide, by decide⟩ ?_
        refine WP.iadd (pc := 39) hC dX1_rightPapers_39 ?_
        refine WP.isn (lv' := [_, _, _, _]) (pc := 40) hC dX1_rightPapers_40 rfl (by decide) rfl ?_
        refine WP.iinc (lv' := [_, _, _, _]) (pc := 41) hC dX1_rightPapers_41 rfl (_ + 1) rfl rfl (by decide) rfl ?_
        refine WP.goto (pc := 44) hC dX1_rightPapers_44 4 (by decide) ?_
        rw [nIp1]
        first | exact hv _ (by rw [rgN, if_pos h18, ha]) | exact hv _ (by rw [rgN, if_neg h18, ha])
      · rw [b2_n0, decide_eq_true_eq] at h18
        refine WP.aln (pc := 21) hC dX1_rightPapers_21 rfl ?_
        refine WP.gf (pc := 22) hC dX1_rightPapers_22 fl_X1_18 (show b < wN.2 from hb.2) (cw_b hb.1 _ _) rfl ?_
        refine WP.goto (pc := 25) hC dX1_rightPapers_25 32 (by decide) ?_
        refine WP.iln (pc := 32) hC dX1_rightPapers_32 rfl ?_
        refine WP.callSI (pc := 33) hC dX1_rightPapers_33 (k_X1_onSample _ F L wN _ s (by omega)) ml_X1_52 rfl rfl (Nat.le_of_ble_eq_true rfl) ⟨by decide, by decide⟩ ?_
        refine WP.callSI (pc := 36) hC dX1_rightPapers_36 (k_J6_bitCount_0f7a4 _ F L wN _) ml_X1_37 rfl rfl (Nat.le_of_ble_eq_true rfl) ⟨by decide, by decide⟩ ?_
        refine WP.iadd (pc := 39) hC dX1_rightPapers_39 ?_
        refine WP.isn (lv' := [_, _, _, _]) (pc := 40) hC dX1_rightPapers_40 rfl (by decide) rfl ?_
        refine WP.iinc (lv' := [_, _, _, _]) (pc := 41) hC dX1_rightPapers_41 rfl (_ + 1) rfl rfl (by decide) rfl ?_
        refine WP.goto (pc := 44) hC dX1_rightPapers_44 4 (by decide) ?_
        rw [nIp1]
        first | exact hv _ (by rw [rgN, if_pos h18, ha]) | exact hv _ (by rw [rgN, if_neg h18, ha])
  refine WP.iconst (pc := 0) hC dX1_rightPapers_0 0 (by decide) ?_
  refine WP.isn (lv' := [_, _, _, _]) (pc := 1) hC dX1_rightPapers_1 rfl (by decide) rfl ?_
  refine WP.iconst (pc := 2) hC dX1_rightPapers_2 0 (by decide) ?_
  refine WP.isn (lv' := [_, _, _, _]) (pc := 3) hC dX1_rightPapers_3 rfl (by decide) rfl ?_
  exact loop 0 (Nat.zero_le _) 0 rfl
set_option maxHeartbeats 4000000 in
theorem k_X1_seenBy (l : Launch) (F : FF) (L : Int64) (b nr ns i j : Nat) (p t : Bool) (hB : BB F b p t) (hN : NR F nr ns) (hi : i < nr) (hj : j < ns) : CI l yX1_seenBy cX1_seenBy 4 (some .int) (rmx 3 70) wN [.ref b, .ref 3, .int (nI i), .int (nI j)] F L (sees (F 6 i) (F 4 i) (lits p (F 7 j)) (rdg (F b 2) i) t) F L := by
  refine mkI [some (.ref b), some (.ref 3), some (.int (nI i)), some (.int (nI j))] 0 (by decide) rfl (Nat.le_of_ble_eq_true rfl) ?_
  intro x d hx hC
  subst hx
  have hC : Cx x cX1_seenBy 4 RX1 (some .int) (rmx 3 70) wN d := hC
  have hb : 19 ≤ b ∧ b < 37 := ⟨hB.1, hB.2.1⟩
  refine WP.aln (pc := 0) hC dX1_seenBy_0 rfl ?_
  refine WP.iln (pc := 1) hC dX1_seenBy_1 rfl ?_
  refine WP.iln (pc := 2) hC dX1_seenBy_2 rfl ?_
  refine WP.aln (pc := 3) hC dX1_seenBy_3 rfl ?_
  refine WP.iln (pc := 4) hC dX1_seenBy_4 rfl ?_
  refine WP.callVI (pc := 5) hC dX1_seenBy_5 (k_X3_expectsOf _ F L nr ns i hN hi) ml_X1_55 rfl rfl (by decide) rfl (Nat.le_of_ble_eq_true rfl) ⟨by decide, by decide⟩ ?_
  refine WP.aln (pc := 8) hC dX1_seenBy_8 rfl ?_
  refine WP.iln (pc := 9) hC dX1_seenBy_9 rfl ?_
  refine WP.callVI (pc := 10) hC dX1_seenBy_10 (k_X1_readingsOf _ F L b i hb) ml_X1_58 rfl rfl (show b < wN.2 from hb.2) (cw_b hb.1 _ _) (Nat.le_of_ble_eq_true rfl) ⟨by decide, by decide⟩ ?_
  refine WP.aln (pc := 13) hC dX1_seenBy_13 rfl ?_
  refine WP.gf (pc := 14) hC dX1_seenBy_14 fl_X1_9 (show b < wN.2 from hb.2) (cw_b hb.1 _ _) rfl ?_
  refine WP.aln (pc := 17) hC dX1_seenBy_17 rfl ?_
  refine WP.gf (pc := 18) hC dX1_seenBy_18 fl_X1_15 (show b < wN.2 from hb.2) (cw_b hb.1 _ _) rfl ?_
  rw [hB.2.2.1, hB.2.2.2]
  refine WP.callVI (pc := 21) hC dX1_seenBy_21 (k_X3_seen _ F L nr ns i j _ _ p t hN hi hj) ml_X1_61 rfl rfl (by decide) rfl (Nat.le_of_ble_eq_true rfl) ⟨by decide, by decide⟩ ?_
  refine WP.iret (pc := 24) hC rfl dX1_seenBy_24 ?_ ?_ ?_
  all_goals (rfl)
set_option maxHeartbeats 4000000 in
theorem k_X1_takeReading (l : Launch) (F : FF) (L : Int64) (b nr ns i j : Nat) (p t : Bool) (hB : BB F b p t) (hN : NR F nr ns) (hi : i < nr) (hj : j < ns) : CI l yX1_takeReading cX1_takeReading 6 (some .boolean) (rmx 4 93) wN [.ref b, .ref 3, .int (nI i), .int (nI j)] F L (b2 (yesAt F b i j p t)) (tkR F b i j (yesAt F b i j p t)) L := by
  refine mkI [some (.ref b), some (.ref 3), some (.int (nI i)), some (.int (nI j)), none, none] 2 (by decide) rfl (Nat.le_of_ble_eq_true rfl) ?_
  intro x d hx hC
  subst hx
  have hC : Cx x cX1_takeReading 6 RX1 (some .boolean) (rmx 4 93) wN d := hC
  have hb : 19 ≤ b ∧ b < 37 := ⟨hB.1, hB.2.1⟩
  have hr5 := hN.2.2.1
  have hs4 := hN.2.2.2
  have hN2 : ∀ v, NR (up2 F b 2 v) nr ns := fun v => by
    refine ⟨?_, ?_, hr5, hs4⟩
    · rw [up2_n _ _ (Or.inl (by omega))]; exact hN.1
    · rw [up2_n _ _ (Or.inl (by omega))]; exact hN.2.1
  refine WP.aln (pc := 0) hC dX1_takeReading_0 rfl ?_
  refine WP.iln (pc := 1) hC dX1_takeReading_1 rfl ?_
  refine WP.aln (pc := 2) hC dX1_takeReading_2 rfl ?_
  refine WP.aln (pc := 3) hC dX1_takeReading_3 rfl ?_
  refine WP.iln (pc := 4) hC dX1_takeReading_4 rfl ?_
  refine WP.iln (pc := 5) hC dX1_takeReading_5 rfl ?_
  refine WP.callVI (pc := 6) hC dX1_takeReading_6 (k_X1_seenBy _ F L b nr ns i j p t hB hN hi hj) ml_X1_65 rfl rfl (show b < wN.2 from hb.2) (cw_b hb.1 _ _) (Nat.le_of_ble_eq_true rfl) ⟨by decide, by decide⟩ ?_
  refine WP.callVI (pc := 9) hC dX1_takeReading_9 (k_X3_saysYes _ F L nr ns i _ hN hi) ml_X1_69 rfl rfl (by decide) rfl (Nat.le_of_ble_eq_true rfl) ⟨by decide, by decide⟩ ?_
  refine WP.is (lv' := [_, _, _, _, _, _]) (pc := 12) hC dX1_takeReading_12 rfl (by decide) rfl ?_
  rw [show saysB (F 6 i) (F 5 i) (sees (F 6 i) (F 4 i) (lits p (F 7 j)) (rdg (F b 2) i) t) = yesAt F b i j p t from rfl]
  generalize hy : yesAt F b i j p t = y
  refine WP.aln (pc := 14) hC dX1_takeReading_14 rfl ?_
  refine WP.iln (pc := 15) hC dX1_takeReading_15 rfl ?_
  refine WP.bipush (pc := 16) hC dX1_takeReading_16 9 (by decide) ?_
  refine WP.aln (pc := 18) hC dX1_takeReading_18 rfl ?_
  refine WP.iln (pc := 19) hC dX1_takeReading_19 rfl ?_
  refine WP.callVI (pc := 20) hC dX1_takeReading_20 (k_X1_readingsOf _ F L b i hb) ml_X1_58 rfl rfl (show b < wN.2 from hb.2) (cw_b hb.1 _ _) (Nat.le_of_ble_eq_true rfl) ⟨by decide, by decide⟩ ?_
  refine WP.iconst (pc := 23) hC dX1_takeReading_23 1 (by decide) ?_
  refine WP.iadd (pc := 24) hC dX1_takeReading_24 ?_
  refine WP.mmin (pc := 25) hC dX1_takeReading_25 ml_X1_73 ⟨by decide, Nat.le_of_ble_eq_true rfl⟩ ?_
  refine WP.callVV (pc := 28) hC dX1_takeReading_28 (k_X1_setReadings _ F L b i _ hb) ml_X1_78 rfl rfl (show b < wN.2 from hb.2) (cw_b hb.1 _ _) (Nat.le_of_ble_eq_true rfl) ⟨by decide, by decide⟩ ?_
  refine WP.iln (pc := 31) hC dX1_takeReading_31 rfl ?_
  refine WP.iln (pc := 32) hC dX1_takeReading_32 rfl ?_
  refine WP.callSI (pc := 33) hC dX1_takeReading_33 (k_X1_paper _ _ L wN i j (by omega) (by omega)) ml_X1_29 rfl rfl (Nat.le_of_ble_eq_true rfl) ⟨by decide, by decide⟩ ?_
  refine WP.is (lv' := [_, _, _, _, _, _]) (pc := 36) hC dX1_takeReading_36 rfl (by decide) rfl ?_
  refine WP.aln (pc := 38) hC dX1_takeReading_38 rfl ?_
  refine WP.il (pc := 39) hC dX1_takeReading_39 rfl ?_
  refine WP.callVV (pc := 41) hC dX1_takeReading_41 (k_X1_dropPaper _ _ L b _ hb) ml_X1_82 rfl rfl (show b < wN.2 from hb.2) (cw_b hb.1 _ _) (Nat.le_of_ble_eq_true rfl) ⟨by decide, by decide⟩ ?_
  refine WP.aln (pc := 44) hC dX1_takeReading_44 rfl ?_
  refine WP.dup (pc := 45) hC dX1_takeReading_45 rfl ?_
  refine WP.gf (pc := 46) hC dX1_takeReading_46 fl_X1_18 (show b < wN.2 from hb.2) (cw_b hb.1 _ _) rfl ?_
  refine WP.il (pc := 49) hC dX1_takeReading_49 rfl ?_
  refine WP.ifeq (pc := 51) hC dX1_takeReading_51 59 (by decide) (fun h51 => ?_) (fun h51 => ?_)
  · rw [b2_0] at h51
    subst h51
    refine WP.iconst (pc := 59) hC dX1_takeReading_59 0 (by decide) ?_
    refine WP.ior (pc := 60) hC dX1_takeReading_60 ?_
    refine WP.pf (pc := 61) hC dX1_takeReading_61 fp_X1_18 rfl rfl (show b < wN.2 from hb.2) (cw_b hb.1 _ _) (cw_b hb.1 _ _) (Nat.le_of_ble_eq_true rfl) ?_
    refine WP.aln (pc := 64) hC dX1_takeReading_64 rfl ?_
    refine WP.dup (pc := 65) hC dX1_takeReading_65 rfl ?_
    refine WP.gf (pc := 66) hC dX1_takeReading_66 fl_X1_22 (show b < wN.2 from hb.2) (cw_b hb.1 _ _) rfl ?_
    refine WP.il (pc := 69) hC dX1_takeReading_69 rfl ?_
    refine WP.ifeq (pc := 71) hC dX1_takeReading_71 78 (by decide) (fun h71 => ?_) (fun h71 => ?_)
    · refine WP.il (pc := 78) hC dX1_takeReading_78 rfl ?_
      refine WP.ior (pc := 80) hC dX1_takeReading_80 ?_
      refine WP.pf (pc := 81) hC dX1_takeReading_81 fp_X1_22 rfl rfl (show b < wN.2 from hb.2) (cw_b hb.1 _ _) (cw_b hb.1 _ _) (Nat.le_of_ble_eq_true rfl) ?_
      refine WP.il (pc := 84) hC dX1_takeReading_84 rfl ?_
      refine WP.zret (pc := 86) hC rfl (by first | exact Or.inl rfl | exact Or.inr rfl | exact b2_01 _) dX1_takeReading_86 ?_ ?_ ?_
      all_goals (first | rfl | exact absurd h71 (by decide) | (rw [tk_lem]; simp [tkR, inc9]; done))
    · refine WP.iconst (pc := 74) hC dX1_takeReading_74 0 (by decide) ?_
      refine WP.goto (pc := 75) hC dX1_takeReading_75 80 (by decide) ?_
      refine WP.ior (pc := 80) hC dX1_takeReading_80 ?_
      refine WP.pf (pc := 81) hC dX1_takeReading_81 fp_X1_22 rfl rfl (show b < wN.2 from hb.2) (cw_b hb.1 _ _) (cw_b hb.1 _ _) (Nat.le_of_ble_eq_true rfl) ?_
      refine WP.il (pc := 84) hC dX1_takeReading_84 rfl ?_
      refine WP.zret (pc := 86) hC rfl (by first | exact Or.inl rfl | exact Or.inr rfl | exact b2_01 _) dX1_takeReading_86 ?_ ?_ ?_
      all_goals (first | rfl | exact absurd h71 (by decide) | (rw [tk_lem]; simp [tkR, inc9]; done))
  · rw [b2_n0] at h51
    subst h51
    refine WP.il (pc := 54) hC dX1_takeReading_54 rfl ?_
    refine WP.goto (pc := 56) hC dX1_takeReading_56 60 (by decide) ?_
    refine WP.ior (pc := 60) hC dX1_takeReading_60 ?_
    refine WP.pf (pc := 61) hC dX1_takeReading_61 fp_X1_18 rfl rfl (show b < wN.2 from hb.2) (cw_b hb.1 _ _) (cw_b hb.1 _ _) (Nat.le_of_ble_eq_true rfl) ?_
    refine WP.aln (pc := 64) hC dX1_takeReading_64 rfl ?_
    refine WP.dup (pc := 65) hC dX1_takeReading_65 rfl ?_
    refine WP.gf (pc := 66) hC dX1_takeReading_66 fl_X1_22 (show b < wN.2 from hb.2) (cw_b hb.1 _ _) rfl ?_
    refine WP.il (pc := 69) hC dX1_takeReading_69 rfl ?_
    refine WP.ifeq (pc := 71) hC dX1_takeReading_71 78 (by decide) (fun h71 => ?_) (fun h71 => ?_)
    · refine WP.il (pc := 78) hC dX1_takeReading_78 rfl ?_
      refine WP.ior (pc := 80) hC dX1_takeReading_80 ?_
      refine WP.pf (pc := 81) hC dX1_takeReading_81 fp_X1_22 rfl rfl (show b < wN.2 from hb.2) (cw_b hb.1 _ _) (cw_b hb.1 _ _) (Nat.le_of_ble_eq_true rfl) ?_
      refine WP.il (pc := 84) hC dX1_takeReading_84 rfl ?_
      refine WP.zret (pc := 86) hC rfl (by first | exact Or.inl rfl | exact Or.inr rfl | exact b2_01 _) dX1_takeReading_86 ?_ ?_ ?_
      all_goals (first | rfl | exact absurd h71 (by decide) | (rw [tk_lem]; simp [tkR, inc9]; done))
    · refine WP.iconst (pc := 74) hC dX1_takeReading_74 0 (by decide) ?_
      refine WP.goto (pc := 75) hC dX1_takeReading_75 80 (by decide) ?_
      refine WP.ior (pc := 80) hC dX1_takeReading_80 ?_
      refine WP.pf (pc := 81) hC dX1_takeReading_81 fp_X1_22 rfl rfl (show b < wN.2 from hb.2) (cw_b hb.1 _ _) (cw_b hb.1 _ _) (Nat.le_of_ble_eq_true rfl) ?_
      refine WP.il (pc := 84) hC dX1_takeReading_84 rfl ?_
      refine WP.zret (pc := 86) hC rfl (by first | exact Or.inl rfl | exact Or.inr rfl | exact b2_01 _) dX1_takeReading_86 ?_ ?_ ?_
      all_goals (first | rfl | exact absurd h71 (by decide) | (rw [tk_lem]; simp [tkR, inc9]; done))
