/-! ===== NewRays: acts, heard, slots ===== -/
theorem rmB_n {F : FF} {nx a : Nat} (k : Nat) (h1 : a ≠ nx + 20) (h2 : a ≠ 8) : rmB F nx a k = F a k := by
  unfold rmB
  rw [up2_n _ _ (Or.inl h2), up2_n _ _ (Or.inl h2), cpB_n _ _ h1]
theorem NR.rm {F : FF} {nr ns nx : Nat} (h : NR F nr ns) : NR (rmB F nx) nr ns := ⟨by rw [rmB_n _ (by omega) (by decide)]; exact h.1, by rw [rmB_n _ (by omega) (by decide)]; exact h.2.1, h.2.2⟩
theorem BB.rm {F : FF} {nx : Nat} {p t : Bool} (h : BB F 19 p t) : BB (rmB F nx) 19 p t := ⟨h.1, h.2.1, by rw [rmB_n _ (by omega) (by decide)]; exact h.2.2.1, by rw [rmB_n _ (by omega) (by decide)]; exact h.2.2.2⟩
theorem yes_rm {F : FF} {nx i j : Nat} {p t : Bool} : yesAt (rmB F nx) 19 i j p t = sayF F p t j i := by
  unfold yesAt sayF
  rw [rmB_n 2 (show 19 ≠ nx + 20 by omega) (by decide), rmB_n _ (show 6 ≠ nx + 20 by omega) (by decide), rmB_n _ (show 5 ≠ nx + 20 by omega) (by decide), rmB_n _ (show 4 ≠ nx + 20 by omega) (by decide), rmB_n _ (show 7 ≠ nx + 20 by omega) (by decide)]
theorem chk_of {r s : Int32} {nr ns : Nat} (h1 : nr ≤ 5) (h2 : ns ≤ 4) (h : (hasB r nr && hasB s ns) = true) : ∃ i j, i < nr ∧ j < ns ∧ r = nI i ∧ s = nI j := by
  rw [Bool.and_eq_true] at h
  obtain ⟨i, hi, e1⟩ := hasB_of h1 h.1
  obtain ⟨j, hj, e2⟩ := hasB_of (by omega) h.2
  exact ⟨i, j, hi, hj, e1, e2⟩
def sayN (F : FF) (j i : Nat) : Bool := sayF F (tru (F 19 3)) (tru (F 19 4)) j i
def brR (F : FF) (nr ns : Nat) (r s : Int32) : Int32 := if chk r nr s ns = true then sees (F 6 (ix r)) (F 4 (ix r)) (lits (tru (F 19 3)) (F 7 (ix s))) (rdg (F 19 2) (ix r)) (tru (F 19 4)) else -1
def rcR (F : FF) (nr ns : Nat) (r s : Int32) : Int32 := if chk r nr s ns = true then b2 (sayN F (ix s) (ix r)) else -1
def rcF (F : FF) (nr ns nx : Nat) (r s : Int32) : FF := if chk r nr s ns = true then tkR (rmB F nx) 19 (ix r) (ix s) (sayN F (ix s) (ix r)) else F
def rsR (F : FF) (nr : Nat) (r : Int32) : Int32 := if hasB r nr = true then (if rdg (F 19 2) (ix r) = 0 then -3 else rdg (F 19 2) (ix r)) else -1
def rsF (F : FF) (nr nx : Nat) (r : Int32) : FF := if hasB r nr = true then (if rdg (F 19 2) (ix r) = 0 then F else up2 (rmB F nx) 19 2 (setR (F 19 2) (ix r) 0)) else F
def wdR (F : FF) (nr ns : Nat) (r s : Int32) : Int32 := if chk r nr s ns = true then (if (F 19 0 ||| F 19 1) &&& ppr (ix r) (ix s) = 0 then -3 else (if F 19 0 &&& ppr (ix r) (ix s) = 0 then 0 else 1)) else -1
def wdF (F : FF) (nr ns nx : Nat) (r s : Int32) : FF := if chk r nr s ns = true then (if (F 19 0 ||| F 19 1) &&& ppr (ix r) (ix s) = 0 then F else dpB (rmB F nx) 19 (ppr (ix r) (ix s))) else F
def nzI (v : Int32) : Int32 := if v = 0 then 1 else 0
theorem nzI_01 (v : Int32) : nzI v = 0 ∨ nzI v = 1 := by unfold nzI; split <;> simp
def foR (F : FF) (nr ns : Nat) (s : Int32) : Int32 := if hasB s ns = true then nI (bits (sayF F false true (ix s)) nr) else -1
def trR (F : FF) (nr ns : Nat) (s : Int32) : Int32 := if hasB s ns = true then nI (bits (sayF F true false (ix s)) nr) &&& (nI (bits (sayF F false false (ix s)) nr) ^^^ (-1)) else -1
def in01 (p y : Int32) : Prop := 0 ≤ p ∧ p ≤ 1 ∧ 0 ≤ y ∧ y ≤ 1
def heR (F : FF) (nr ns h : Nat) (r s p y : Int32) : Int32 := if chk r nr s ns = true then (if 0 ≤ p ∧ p ≤ 1 ∧ 0 ≤ y ∧ y ≤ 1 then (if h < 6 then F 10 4 + 1 else -4) else -2) else -1
def heF (F : FF) (nr ns h : Nat) (r s p y : Int32) : FF := if chk r nr s ns = true then (if 0 ≤ p ∧ p ≤ 1 ∧ 0 ≤ y ∧ y ≤ 1 then (if h < 6 then hrA F h r s (b2 (tru p)) (b2 (tru y)) else F) else F) else F
def exR (F : FF) (nr ns h : Nat) (r : Int32) : Int32 := if hasB r nr = true then nI (bits (fun e => agN F ns (ix r) (nI e) h) 10) else -1
theorem or_bitX : ∀ i, i < 10 → ∀ a, a < 2 ^ i → nI a ||| nI (2 ^ i) = nI (a + 2 ^ i) := by decide +kernel
theorem shX : ∀ i, i < 10 → (1 : Int32) <<< (nI i &&& 31) = nI (2 ^ i) := by decide
theorem bits_t {f : Nat → Bool} {n : Nat} (h : f n = true) : bits f (n + 1) = bits f n + 2 ^ n := by rw [bits, if_pos h]
theorem bits_f {f : Nat → Bool} {n : Nat} (h : f n = false) : bits f (n + 1) = bits f n := by rw [bits, h]; simp
def kpR (F : FF) (s : Int32) : Int32 := if hasB s 2 = true then bcI (F 19 0 ||| F 19 1) else -1
def kpF (F : FF) (s : Int32) : FF := if hasB s 2 = true then up2 (cpB F (ix s + 34) 19) 16 (ix s) 1 else F
def agR (F : FF) (s : Int32) : Int32 := if hasB s 2 = true then (if F 16 (ix s) = 0 then -3 else bcI (F (ix s + 34) 0 ||| F (ix s + 34) 1)) else -1
def agF (F : FF) (s : Int32) : FF := if hasB s 2 = true then (if F 16 (ix s) = 0 then F else up2 (cpB F 19 (ix s + 34)) 8 2 0) else F
def ctR (F : FF) (ns : Nat) (w : Int32) : Int32 := if w = 0 then F 1 1 else if w = 1 then F 3 4 else if w = 2 then F 3 5 else if w = 3 then F 19 3 else if w = 4 then F 19 4 else if w = 5 then bcI (F 19 0 ||| F 19 1) else if w = 6 then rgN F 19 ns else if w = 7 then F 8 2 else if w = 8 then F 10 4 else -2
def wgN (F : FF) : Nat → Int32
  | 0 => 0
  | s + 1 => wgN F s ||| (if bcI (F 19 0 &&& mskS s) ≤ bcI (F 19 1 &&& mskS s) then F 19 0 &&& mskS s else F 19 1 &&& mskS s)
def wgR (F : FF) (ns : Nat) (which : Bool) : Int32 := if which = true then wgN F ns else bcI (wgN F ns)

set_option maxHeartbeats 4000000 in
theorem k_X5_bright (l : Launch) (F : FF) (L : Int64) (nr ns : Nat) (r s : Int32) (hN : NR F nr ns) (hZ : BZ F) : CI l yX5_bright cX5_bright 3 (some .int) (rmx 4 93) wN [.ref 0, .int r, .int s] F L (brR F nr ns r s) F L := by
  refine mkI [some (.ref 0), some (.int r), some (.int s)] 0 (by decide) rfl (Nat.le_of_ble_eq_true rfl) ?_
  intro x d hx hC
  subst hx
  have hC : Cx x cX5_bright 3 RX5 (some .int) (rmx 4 93) wN d := hC
  refine WP.aln (pc := 0) hC dX5_bright_0 rfl ?_
  refine WP.gf (pc := 1) hC dX5_bright_1 fl_X5_19 (by decide) rfl rfl ?_
  refine WP.iln (pc := 4) hC dX5_bright_4 rfl ?_
  refine WP.iln (pc := 5) hC dX5_bright_5 rfl ?_
  refine WP.callVI (pc := 6) hC dX5_bright_6 (k_X3_hasBoth _ F L nr ns r s hN) ml_X5_123 rfl rfl (by decide) rfl (Nat.le_of_ble_eq_true rfl) ⟨by decide, by decide⟩ ?_
  refine WP.ifne (pc := 9) hC dX5_bright_9 14 (by decide) (fun h9 => ?_) (fun h9 => ?_)
  · rw [b2_n0] at h9
    obtain ⟨i, j, hi, hj, rfl, rfl⟩ := chk_of hN.2.2.1 hN.2.2.2 h9
    have hc9 : chk (nI i) nr (nI j) ns = true := h9
    have hi5 : i < 5 := by have := hN.2.2.1; omega
    have hj4 : j < 4 := by have := hN.2.2.2; omega
    have ei : ix (nI i) = i := ix_nI (by omega)
    have ej : ix (nI j) = j := ix_nI (by omega)
    refine WP.aln (pc := 14) hC dX5_bright_14 rfl ?_
    refine WP.gf (pc := 15) hC dX5_bright_15 fl_X5_26 (by decide) rfl rfl ?_
    refine WP.aln (pc := 18) hC dX5_bright_18 rfl ?_
    refine WP.gf (pc := 19) hC dX5_bright_19 fl_X5_19 (by decide) rfl rfl ?_
    refine WP.iln (pc := 22) hC dX5_bright_22 rfl ?_
    refine WP.iln (pc := 23) hC dX5_bright_23 rfl ?_
    refine WP.callVI (pc := 24) hC dX5_bright_24 (k_X1_seenBy _ F L 19 nr ns i j _ _ (hZ.bb (by decide) (by decide)) hN hi hj) ml_X5_127 rfl rfl (by decide) rfl (Nat.le_of_ble_eq_true rfl) ⟨by decide, by decide⟩ ?_
    refine WP.iret (pc := 27) hC rfl dX5_bright_27 ?_ ?_ ?_
    all_goals (first | rfl | (unfold brR; rw [if_pos hc9, ei, ej]) | (unfold brR; rw [if_neg hc9]))
  · rw [b2_0] at h9
    have hc9 : ¬ chk r nr s ns = true := by unfold chk; rw [h9]; decide
    refine WP.iconst (pc := 12) hC dX5_bright_12 (-1) (by decide) ?_
    refine WP.iret (pc := 13) hC rfl dX5_bright_13 ?_ ?_ ?_
    all_goals (first | rfl | (unfold brR; rw [if_pos hc9, ei, ej]) | (unfold brR; rw [if_neg hc9]))
set_option maxHeartbeats 4000000 in
theorem k_X5_read (l : Launch) (F : FF) (L : Int64) (nr ns nx sz : Nat) (r s : Int32) (hN : NR F nr ns) (hZ : BZ F) (hA : AC F nx sz) : CI l yX5_read cX5_read 3 (some .int) (rmx 5 118) wN [.ref 0, .int r, .int s] F L (rcR F nr ns r s) (rcF F nr ns nx r s) L := by
  refine mkI [some (.ref 0), some (.int r), some (.int s)] 0 (by decide) rfl (Nat.le_of_ble_eq_true rfl) ?_
  intro x d hx hC
  subst hx
  have hC : Cx x cX5_read 3 RX5 (some .int) (rmx 5 118) wN d := hC
  refine WP.aln (pc := 0) hC dX5_read_0 rfl ?_
  refine WP.gf (pc := 1) hC dX5_read_1 fl_X5_19 (by decide) rfl rfl ?_
  refine WP.iln (pc := 4) hC dX5_read_4 rfl ?_
  refine WP.iln (pc := 5) hC dX5_read_5 rfl ?_
  refine WP.callVI (pc := 6) hC dX5_read_6 (k_X3_hasBoth _ F L nr ns r s hN) ml_X5_123 rfl rfl (by decide) rfl (Nat.le_of_ble_eq_true rfl) ⟨by decide, by decide⟩ ?_
  refine WP.ifne (pc := 9) hC dX5_read_9 14 (by decide) (fun h9 => ?_) (fun h9 => ?_)
  · rw [b2_n0] at h9
    obtain ⟨i, j, hi, hj, rfl, rfl⟩ := chk_of hN.2.2.1 hN.2.2.2 h9
    have hc9 : chk (nI i) nr (nI j) ns = true := h9
    have hi5 : i < 5 := by have := hN.2.2.1; omega
    have hj4 : j < 4 := by have := hN.2.2.2; omega
    have ei : ix (nI i) = i := ix_nI (by omega)
    have ej : ix (nI j) = j := ix_nI (by omega)
    refine WP.aln (pc := 14) hC dX5_read_14 rfl ?_
    refine WP.gf (pc := 15) hC dX5_read_15 fl_X5_33 (by decide) rfl rfl ?_
    refine WP.aln (pc := 18) hC dX5_read_18 rfl ?_
    refine WP.gf (pc := 19) hC dX5_read_19 fl_X5_26 (by decide) rfl rfl ?_
    refine WP.callVV (pc := 22) hC dX5_read_22 (k_X0_remember _ F L nx sz hA hZ) ml_X5_131 rfl rfl (by decide) rfl (Nat.le_of_ble_eq_true rfl) ⟨by decide, by decide⟩ ?_
    refine WP.aln (pc := 25) hC dX5_read_25 rfl ?_
    refine WP.gf (pc := 26) hC dX5_read_26 fl_X5_26 (by decide) rfl rfl ?_
    refine WP.aln (pc := 29) hC dX5_read_29 rfl ?_
    refine WP.gf (pc := 30) hC dX5_read_30 fl_X5_19 (by decide) rfl rfl ?_
    refine WP.iln (pc := 33) hC dX5_read_33 rfl ?_
    refine WP.iln (pc := 34) hC dX5_read_34 rfl ?_
    refine WP.callVI (pc := 35) hC dX5_read_35 (k_X1_takeReading _ (rmB F nx) L 19 nr ns i j _ _ (hZ.bb (by decide) (by decide)).rm hN.rm hi hj) ml_X5_135 rfl rfl (by decide) rfl (Nat.le_of_ble_eq_true rfl) ⟨by decide, by decide⟩ ?_
    rw [yes_rm, show sayF F (tru (F 19 3)) (tru (F 19 4)) j i = sayN F j i from rfl]
    generalize hy : sayN F j i = y
    refine WP.ifeq (pc := 38) hC dX5_read_38 45 (by decide) (fun h38 => ?_) (fun h38 => ?_)
    · rw [b2_0] at h38
      subst h38
      refine WP.iconst (pc := 45) hC dX5_read_45 0 (by decide) ?_
      refine WP.iret (pc := 46) hC rfl dX5_read_46 ?_ ?_ ?_
      all_goals (first | rfl | (unfold rcR; rw [if_pos hc9, ei, ej, hy]; rfl) | (unfold rcF; rw [if_pos hc9, ei, ej, hy]) | (unfold rcR; rw [if_neg hc9]) | (unfold rcF; rw [if_neg hc9]))
    · rw [b2_n0] at h38
      subst h38
      refine WP.iconst (pc := 41) hC dX5_read_41 1 (by decide) ?_
      refine WP.goto (pc := 42) hC dX5_read_42 46 (by decide) ?_
      refine WP.iret (pc := 46) hC rfl dX5_read_46 ?_ ?_ ?_
      all_goals (first | rfl | (unfold rcR; rw [if_pos hc9, ei, ej, hy]; rfl) | (unfold rcF; rw [if_pos hc9, ei, ej, hy]) | (unfold rcR; rw [if_neg hc9]) | (unfold rcF; rw [if_neg hc9]))
  · rw [b2_0] at h9
    have hc9 : ¬ chk r nr s ns = true := by unfold chk; rw [h9]; decide
    refine WP.iconst (pc := 12) hC dX5_read_12 (-1) (by decide) ?_
    refine WP.iret (pc := 13) hC rfl dX5_read_13 ?_ ?_ ?_
    all_goals (first | rfl | (unfold rcR; rw [if_pos hc9, ei, ej, hy]; rfl) | (unfold rcF; rw [if_pos hc9, ei, ej, hy]) | (unfold rcR; rw [if_neg hc9]) | (unfold rcF; rw [if_neg hc9]))
set_option maxHeartbeats 4000000 in
theorem k_X5_rest (l : Launch) (F : FF) (L : Int64) (nr ns nx sz : Nat) (r : Int32) (hN : NR F nr ns) (hZ : BZ F) (hA : AC F nx sz) : CI l yX5_rest cX5_rest 3 (some .int) (rmx 2 42) wN [.ref 0, .int r] F L (rsR F nr r) (rsF F nr nx r) L := by
  refine mkI [some (.ref 0), some (.int r), none] 1 (by decide) rfl (Nat.le_of_ble_eq_true rfl) ?_
  intro x d hx hC
  subst hx
  have hC : Cx x cX5_rest 3 RX5 (some .int) (rmx 2 42) wN d := hC
  refine WP.aln (pc := 0) hC dX5_rest_0 rfl ?_
  refine WP.gf (pc := 1) hC dX5_rest_1 fl_X5_19 (by decide) rfl rfl ?_
  refine WP.iln (pc := 4) hC dX5_rest_4 rfl ?_
  refine WP.callVI (pc := 5) hC dX5_rest_5 (k_X3_hasReader _ F L nr ns r hN) ml_X5_88 rfl rfl (by decide) rfl (Nat.le_of_ble_eq_true rfl) ⟨by decide, by decide⟩ ?_
  refine WP.ifne (pc := 8) hC dX5_rest_8 13 (by decide) (fun h8 => ?_) (fun h8 => ?_)
  · rw [b2_n0] at h8
    obtain ⟨i, hi, rfl⟩ := hasB_of hN.2.2.1 h8
    have hi5 : i < 5 := by have := hN.2.2.1; omega
    have ei : ix (nI i) = i := ix_nI (by omega)
    refine WP.aln (pc := 13) hC dX5_rest_13 rfl ?_
    refine WP.gf (pc := 14) hC dX5_rest_14 fl_X5_26 (by decide) rfl rfl ?_
    refine WP.iln (pc := 17) hC dX5_rest_17 rfl ?_
    refine WP.callVI (pc := 18) hC dX5_rest_18 (k_X1_readingsOf _ F L 19 i (by decide)) ml_X5_100 rfl rfl (by decide) rfl (Nat.le_of_ble_eq_true rfl) ⟨by decide, by decide⟩ ?_
    refine WP.isn (lv' := [_, _, _]) (pc := 21) hC dX5_rest_21 rfl (by decide) rfl ?_
    refine WP.iln (pc := 22) hC dX5_rest_22 rfl ?_
    refine WP.ifne (pc := 23) hC dX5_rest_23 29 (by decide) (fun h23 => ?_) (fun h23 => ?_)
    · refine WP.aln (pc := 29) hC dX5_rest_29 rfl ?_
      refine WP.gf (pc := 30) hC dX5_rest_30 fl_X5_33 (by decide) rfl rfl ?_
      refine WP.aln (pc := 33) hC dX5_rest_33 rfl ?_
      refine WP.gf (pc := 34) hC dX5_rest_34 fl_X5_26 (by decide) rfl rfl ?_
      refine WP.callVV (pc := 37) hC dX5_rest_37 (k_X0_remember _ F L nx sz hA hZ) ml_X5_131 rfl rfl (by decide) rfl (Nat.le_of_ble_eq_true rfl) ⟨by decide, by decide⟩ ?_
      refine WP.aln (pc := 40) hC dX5_rest_40 rfl ?_
      refine WP.gf (pc := 41) hC dX5_rest_41 fl_X5_26 (by decide) rfl rfl ?_
      refine WP.iln (pc := 44) hC dX5_rest_44 rfl ?_
      refine WP.iconst (pc := 45) hC dX5_rest_45 0 (by decide) ?_
      refine WP.callVV (pc := 46) hC dX5_rest_46 (k_X1_setReadings _ (rmB F nx) L 19 i 0 (by decide)) ml_X5_139 rfl rfl (by decide) rfl (Nat.le_of_ble_eq_true rfl) ⟨by decide, by decide⟩ ?_
      rw [rmB_n 2 (show 19 ≠ nx + 20 by omega) (by decide)]
      refine WP.iln (pc := 49) hC dX5_rest_49 rfl ?_
      refine WP.iret (pc := 50) hC rfl dX5_rest_50 ?_ ?_ ?_
      all_goals (first | rfl | (unfold rsR; rw [if_pos h8, ei, if_neg h23]) | (unfold rsF; rw [if_pos h8, ei, if_neg h23]) | (unfold rsR; rw [if_pos h8, ei, if_pos h23]) | (unfold rsF; rw [if_pos h8, ei, if_pos h23]) | (unfold rsR; rw [if_neg (by rw [h8]; decide)]) | (unfold rsF; rw [if_neg (by rw [h8]; decide)]))
    · refine WP.bipush (pc := 26) hC dX5_rest_26 (-3) (by decide) ?_
      refine WP.iret (pc := 28) hC rfl dX5_rest_28 ?_ ?_ ?_
      all_goals (first | rfl | (unfold rsR; rw [if_pos h8, ei, if_neg h23]) | (unfold rsF; rw [if_pos h8, ei, if_neg h23]) | (unfold rsR; rw [if_pos h8, ei, if_pos h23]) | (unfold rsF; rw [if_pos h8, ei, if_pos h23]) | (unfold rsR; rw [if_neg (by rw [h8]; decide)]) | (unfold rsF; rw [if_neg (by rw [h8]; decide)]))
  · rw [b2_0] at h8
    refine WP.iconst (pc := 11) hC dX5_rest_11 (-1) (by decide) ?_
    refine WP.iret (pc := 12) hC rfl dX5_rest_12 ?_ ?_ ?_
    all_goals (first | rfl | (unfold rsR; rw [if_pos h8, ei, if_neg h23]) | (unfold rsF; rw [if_pos h8, ei, if_neg h23]) | (unfold rsR; rw [if_pos h8, ei, if_pos h23]) | (unfold rsF; rw [if_pos h8, ei, if_pos h23]) | (unfold rsR; rw [if_neg (by rw [h8]; decide)]) | (unfold rsF; rw [if_neg (by rw [h8]; decide)]))
set_option maxHeartbeats 4000000 in
theorem k_X5_withdraw (l : Launch) (F : FF) (L : Int64) (nr ns nx sz : Nat) (r s : Int32) (hN : NR F nr ns) (hZ : BZ F) (hA : AC F nx sz) : CI l yX5_withdraw cX5_withdraw 5 (some .int) (rmx 2 43) wN [.ref 0, .int r, .int s] F L (wdR F nr ns r s) (wdF F nr ns nx r s) L := by
  refine mkI [some (.ref 0), some (.int r), some (.int s), none, none] 2 (by decide) rfl (Nat.le_of_ble_eq_true rfl) ?_
  intro x d hx hC
  subst hx
  have hC : Cx x cX5_withdraw 5 RX5 (some .int) (rmx 2 43) wN d := hC
  refine WP.aln (pc := 0) hC dX5_withdraw_0 rfl ?_
  refine WP.gf (pc := 1) hC dX5_withdraw_1 fl_X5_19 (by decide) rfl rfl ?_
  refine WP.iln (pc := 4) hC dX5_withdraw_4 rfl ?_
  refine WP.iln (pc := 5) hC dX5_withdraw_5 rfl ?_
  refine WP.callVI (pc := 6) hC dX5_withdraw_6 (k_X3_hasBoth _ F L nr ns r s hN) ml_X5_123 rfl rfl (by decide) rfl (Nat.le_of_ble_eq_true rfl) ⟨by decide, by decide⟩ ?_
  refine WP.ifne (pc := 9) hC dX5_withdraw_9 14 (by decide) (fun h9 => ?_) (fun h9 => ?_)
  · rw [b2_n0] at h9
    obtain ⟨i, j, hi, hj, rfl, rfl⟩ := chk_of hN.2.2.1 hN.2.2.2 h9
    have hc9 : chk (nI i) nr (nI j) ns = true := h9
    have hi5 : i < 5 := by have := hN.2.2.1; omega
    have hj4 : j < 4 := by have := hN.2.2.2; omega
    have ei : ix (nI i) = i := ix_nI (by omega)
    have ej : ix (nI j) = j := ix_nI (by omega)
    refine WP.iln (pc := 14) hC dX5_withdraw_14 rfl ?_
    refine WP.iln (pc := 15) hC dX5_withdraw_15 rfl ?_
    refine WP.callSI (pc := 16) hC dX5_withdraw_16 (k_X1_paper _ F L wN i j hi5 hj4) ml_X5_143 rfl rfl (Nat.le_of_ble_eq_true rfl) ⟨by decide, by decide⟩ ?_
    refine WP.isn (lv' := [_, _, _, _, _]) (pc := 19) hC dX5_withdraw_19 rfl (by decide) rfl ?_
    refine WP.aln (pc := 20) hC dX5_withdraw_20 rfl ?_
    refine WP.gf (pc := 21) hC dX5_withdraw_21 fl_X5_26 (by decide) rfl rfl ?_
    refine WP.callVI (pc := 24) hC dX5_withdraw_24 (k_X1_allPapers _ F L 19 (by decide)) ml_X5_146 rfl rfl (by decide) rfl (Nat.le_of_ble_eq_true rfl) ⟨by decide, by decide⟩ ?_
    refine WP.iln (pc := 27) hC dX5_withdraw_27 rfl ?_
    refine WP.iand (pc := 28) hC dX5_withdraw_28 ?_
    refine WP.ifne (pc := 29) hC dX5_withdraw_29 35 (by decide) (fun h29 => ?_) (fun h29 => ?_)
    · refine WP.aln (pc := 35) hC dX5_withdraw_35 rfl ?_
      refine WP.gf (pc := 36) hC dX5_withdraw_36 fl_X5_33 (by decide) rfl rfl ?_
      refine WP.aln (pc := 39) hC dX5_withdraw_39 rfl ?_
      refine WP.gf (pc := 40) hC dX5_withdraw_40 fl_X5_26 (by decide) rfl rfl ?_
      refine WP.callVV (pc := 43) hC dX5_withdraw_43 (k_X0_remember _ F L nx sz hA hZ) ml_X5_131 rfl rfl (by decide) rfl (Nat.le_of_ble_eq_true rfl) ⟨by decide, by decide⟩ ?_
      refine WP.aln (pc := 46) hC dX5_withdraw_46 rfl ?_
      refine WP.gf (pc := 47) hC dX5_withdraw_47 fl_X5_26 (by decide) rfl rfl ?_
      refine WP.gf (pc := 50) hC dX5_withdraw_50 fl_X5_113 (by decide) rfl rfl ?_
      rw [rmB_n 0 (show 19 ≠ nx + 20 by omega) (by decide)]
      refine WP.iln (pc := 53) hC dX5_withdraw_53 rfl ?_
      refine WP.iand (pc := 54) hC dX5_withdraw_54 ?_
      refine WP.ifeq (pc := 55) hC dX5_withdraw_55 62 (by decide) (fun h55 => ?_) (fun h55 => ?_)
      · refine WP.iconst (pc := 62) hC dX5_withdraw_62 0 (by decide) ?_
        refine WP.is (lv' := [_, _, _, _, _]) (pc := 63) hC dX5_withdraw_63 rfl (by decide) rfl ?_
        refine WP.aln (pc := 65) hC dX5_withdraw_65 rfl ?_
        refine WP.gf (pc := 66) hC dX5_withdraw_66 fl_X5_26 (by decide) rfl rfl ?_
        refine WP.iln (pc := 69) hC dX5_withdraw_69 rfl ?_
        refine WP.callVV (pc := 70) hC dX5_withdraw_70 (k_X1_dropPaper _ (rmB F nx) L 19 _ (by decide)) ml_X5_149 rfl rfl (by decide) rfl (Nat.le_of_ble_eq_true rfl) ⟨by decide, by decide⟩ ?_
        refine WP.il (pc := 73) hC dX5_withdraw_73 rfl ?_
        refine WP.iret (pc := 75) hC rfl dX5_withdraw_75 ?_ ?_ ?_
        all_goals (first | rfl | (unfold wdR; rw [if_pos hc9, ei, ej, if_neg h29, if_pos h55]) | (unfold wdR; rw [if_pos hc9, ei, ej, if_neg h29, if_neg h55]) | (unfold wdF; rw [if_pos hc9, ei, ej, if_neg h29]) | (unfold wdR; rw [if_pos hc9, ei, ej, if_pos h29]) | (unfold wdF; rw [if_pos hc9, ei, ej, if_pos h29]) | (unfold wdR; rw [if_neg hc9]) | (unfold wdF; rw [if_neg hc9]))
      · refine WP.iconst (pc := 58) hC dX5_withdraw_58 1 (by decide) ?_
        refine WP.goto (pc := 59) hC dX5_withdraw_59 63 (by decide) ?_
        refine WP.is (lv' := [_, _, _, _, _]) (pc := 63) hC dX5_withdraw_63 rfl (by decide) rfl ?_
        refine WP.aln (pc := 65) hC dX5_withdraw_65 rfl ?_
        refine WP.gf (pc := 66) hC dX5_withdraw_66 fl_X5_26 (by decide) rfl rfl ?_
        refine WP.iln (pc := 69) hC dX5_withdraw_69 rfl ?_
        refine WP.callVV (pc := 70) hC dX5_withdraw_70 (k_X1_dropPaper _ (rmB F nx) L 19 _ (by decide)) ml_X5_149 rfl rfl (by decide) rfl (Nat.le_of_ble_eq_true rfl) ⟨by decide, by decide⟩ ?_
        refine WP.il (pc := 73) hC dX5_withdraw_73 rfl ?_
        refine WP.iret (pc := 75) hC rfl dX5_withdraw_75 ?_ ?_ ?_
        all_goals (first | rfl | (unfold wdR; rw [if_pos hc9, ei, ej, if_neg h29, if_pos h55]) | (unfold wdR; rw [if_pos hc9, ei, ej, if_neg h29, if_neg h55]) | (unfold wdF; rw [if_pos hc9, ei, ej, if_neg h29]) | (unfold wdR; rw [if_pos hc9, ei, ej, if_pos h29]) | (unfold wdF; rw [if_pos hc9, ei, ej, if_pos h29]) | (unfold wdR; rw [if_neg hc9]) | (unfold wdF; rw [if_neg hc9]))
    · refine WP.bipush (pc := 32) hC dX5_withdraw_32 (-3) (by decide) ?_
      refine WP.iret (pc := 34) hC rfl dX5_withdraw_34 ?_ ?_ ?_
      all_goals (first | rfl | (unfold wdR; rw [if_pos hc9, ei, ej, if_neg h29, if_pos h55]) | (unfold wdR; rw [if_pos hc9, ei, ej, if_neg h29, if_neg h55]) | (unfold wdF; rw [if_pos hc9, ei, ej, if_neg h29]) | (unfold wdR; rw [if_pos hc9, ei, ej, if_pos h29]) | (unfold wdF; rw [if_pos hc9, ei, ej, if_pos h29]) | (unfold wdR; rw [if_neg hc9]) | (unfold wdF; rw [if_neg hc9]))
  · rw [b2_0] at h9
    have hc9 : ¬ chk r nr s ns = true := by unfold chk; rw [h9]; decide
    refine WP.iconst (pc := 12) hC dX5_withdraw_12 (-1) (by decide) ?_
    refine WP.iret (pc := 13) hC rfl dX5_withdraw_13 ?_ ?_ ?_
    all_goals (first | rfl | (unfold wdR; rw [if_pos hc9, ei, ej, if_neg h29, if_pos h55]) | (unfold wdR; rw [if_pos hc9, ei, ej, if_neg h29, if_neg h55]) | (unfold wdF; rw [if_pos hc9, ei, ej, if_neg h29]) | (unfold wdR; rw [if_pos hc9, ei, ej, if_pos h29]) | (unfold wdF; rw [if_pos hc9, ei, ej, if_pos h29]) | (unfold wdR; rw [if_neg hc9]) | (unfold wdF; rw [if_neg hc9]))
set_option maxHeartbeats 4000000 in
theorem k_X5_prism (l : Launch) (F : FF) (L : Int64) (nx sz : Nat) (hZ : BZ F) (hA : AC F nx sz) : CI l yX5_prism cX5_prism 1 (some .int) (rmx 2 42) wN [.ref 0] F L (nzI (F 19 3)) (up2 (rmB F nx) 19 3 (nzI (F 19 3))) L := by
  refine mkI [some (.ref 0)] 0 (by decide) rfl (Nat.le_of_ble_eq_true rfl) ?_
  intro x d hx hC
  subst hx
  have hC : Cx x cX5_prism 1 RX5 (some .int) (rmx 2 42) wN d := hC
  refine WP.aln (pc := 0) hC dX5_prism_0 rfl ?_
  refine WP.gf (pc := 1) hC dX5_prism_1 fl_X5_33 (by decide) rfl rfl ?_
  refine WP.aln (pc := 4) hC dX5_prism_4 rfl ?_
  refine WP.gf (pc := 5) hC dX5_prism_5 fl_X5_26 (by decide) rfl rfl ?_
  refine WP.callVV (pc := 8) hC dX5_prism_8 (k_X0_remember _ F L nx sz hA hZ) ml_X5_131 rfl rfl (by decide) rfl (Nat.le_of_ble_eq_true rfl) ⟨by decide, by decide⟩ ?_
  refine WP.aln (pc := 11) hC dX5_prism_11 rfl ?_
  refine WP.gf (pc := 12) hC dX5_prism_12 fl_X5_26 (by decide) rfl rfl ?_
  refine WP.aln (pc := 15) hC dX5_prism_15 rfl ?_
  refine WP.gf (pc := 16) hC dX5_prism_16 fl_X5_26 (by decide) rfl rfl ?_
  refine WP.gf (pc := 19) hC dX5_prism_19 fl_X5_153 (by decide) rfl rfl ?_
  rw [rmB_n 3 (show 19 ≠ nx + 20 by omega) (by decide)]
  refine WP.ifne (pc := 22) hC dX5_prism_22 29 (by decide) (fun h22 => ?_) (fun h22 => ?_)
  · refine WP.iconst (pc := 29) hC dX5_prism_29 0 (by decide) ?_
    refine WP.pf (pc := 30) hC dX5_prism_30 fp_X5_153 (nar_z (by first | exact Or.inl rfl | exact Or.inr rfl | exact b2_01 _)).2.1 (nar_z (by first | exact Or.inl rfl | exact Or.inr rfl | exact b2_01 _)).2.2 (by decide) rfl rfl (Nat.le_of_ble_eq_true rfl) ?_
    refine WP.aln (pc := 33) hC dX5_prism_33 rfl ?_
    refine WP.gf (pc := 34) hC dX5_prism_34 fl_X5_26 (by decide) rfl rfl ?_
    refine WP.gf (pc := 37) hC dX5_prism_37 fl_X5_153 (by decide) rfl rfl ?_
    rw [up2_s]
    refine WP.ifeq (pc := 40) hC dX5_prism_40 47 (by decide) (fun h40 => ?_) (fun h40 => ?_)
    · refine WP.iconst (pc := 47) hC dX5_prism_47 0 (by decide) ?_
      refine WP.iret (pc := 48) hC rfl dX5_prism_48 ?_ ?_ ?_
      all_goals (first | rfl | exact absurd h40 (by decide) | (unfold nzI; rw [if_pos h22]) | (unfold nzI; rw [if_neg h22]))
    · refine WP.iconst (pc := 43) hC dX5_prism_43 1 (by decide) ?_
      refine WP.goto (pc := 44) hC dX5_prism_44 48 (by decide) ?_
      refine WP.iret (pc := 48) hC rfl dX5_prism_48 ?_ ?_ ?_
      all_goals (first | rfl | exact absurd h40 (by decide) | (unfold nzI; rw [if_pos h22]) | (unfold nzI; rw [if_neg h22]))
  · refine WP.iconst (pc := 25) hC dX5_prism_25 1 (by decide) ?_
    refine WP.goto (pc := 26) hC dX5_prism_26 30 (by decide) ?_
    refine WP.pf (pc := 30) hC dX5_prism_30 fp_X5_153 (nar_z (by first | exact Or.inl rfl | exact Or.inr rfl | exact b2_01 _)).2.1 (nar_z (by first | exact Or.inl rfl | exact Or.inr rfl | exact b2_01 _)).2.2 (by decide) rfl rfl (Nat.le_of_ble_eq_true rfl) ?_
    refine WP.aln (pc := 33) hC dX5_prism_33 rfl ?_
    refine WP.gf (pc := 34) hC dX5_prism_34 fl_X5_26 (by decide) rfl rfl ?_
    refine WP.gf (pc := 37) hC dX5_prism_37 fl_X5_153 (by decide) rfl rfl ?_
    rw [up2_s]
    refine WP.ifeq (pc := 40) hC dX5_prism_40 47 (by decide) (fun h40 => ?_) (fun h40 => ?_)
    · refine WP.iconst (pc := 47) hC dX5_prism_47 0 (by decide) ?_
      refine WP.iret (pc := 48) hC rfl dX5_prism_48 ?_ ?_ ?_
      all_goals (first | rfl | exact absurd h40 (by decide) | (unfold nzI; rw [if_pos h22]) | (unfold nzI; rw [if_neg h22]))
    · refine WP.iconst (pc := 43) hC dX5_prism_43 1 (by decide) ?_
      refine WP.goto (pc := 44) hC dX5_prism_44 48 (by decide) ?_
      refine WP.iret (pc := 48) hC rfl dX5_prism_48 ?_ ?_ ?_
      all_goals (first | rfl | exact absurd h40 (by decide) | (unfold nzI; rw [if_pos h22]) | (unfold nzI; rw [if_neg h22]))
set_option maxHeartbeats 4000000 in
theorem k_X5_tell (l : Launch) (F : FF) (L : Int64) (nx sz : Nat) (hZ : BZ F) (hA : AC F nx sz) : CI l yX5_tell cX5_tell 1 (some .int) (rmx 2 42) wN [.ref 0] F L (nzI (F 19 4)) (up2 (rmB F nx) 19 4 (nzI (F 19 4))) L := by
  refine mkI [some (.ref 0)] 0 (by decide) rfl (Nat.le_of_ble_eq_true rfl) ?_
  intro x d hx hC
  subst hx
  have hC : Cx x cX5_tell 1 RX5 (some .int) (rmx 2 42) wN d := hC
  refine WP.aln (pc := 0) hC dX5_tell_0 rfl ?_
  refine WP.gf (pc := 1) hC dX5_tell_1 fl_X5_33 (by decide) rfl rfl ?_
  refine WP.aln (pc := 4) hC dX5_tell_4 rfl ?_
  refine WP.gf (pc := 5) hC dX5_tell_5 fl_X5_26 (by decide) rfl rfl ?_
  refine WP.callVV (pc := 8) hC dX5_tell_8 (k_X0_remember _ F L nx sz hA hZ) ml_X5_131 rfl rfl (by decide) rfl (Nat.le_of_ble_eq_true rfl) ⟨by decide, by decide⟩ ?_
  refine WP.aln (pc := 11) hC dX5_tell_11 rfl ?_
  refine WP.gf (pc := 12) hC dX5_tell_12 fl_X5_26 (by decide) rfl rfl ?_
  refine WP.aln (pc := 15) hC dX5_tell_15 rfl ?_
  refine WP.gf (pc := 16) hC dX5_tell_16 fl_X5_26 (by decide) rfl rfl ?_
  refine WP.gf (pc := 19) hC dX5_tell_19 fl_X5_157 (by decide) rfl rfl ?_
  rw [rmB_n 4 (show 19 ≠ nx + 20 by omega) (by decide)]
  refine WP.ifne (pc := 22) hC dX5_tell_22 29 (by decide) (fun h22 => ?_) (fun h22 => ?_)
  · refine WP.iconst (pc := 29) hC dX5_tell_29 0 (by decide) ?_
    refine WP.pf (pc := 30) hC dX5_tell_30 fp_X5_157 (nar_z (by first | exact Or.inl rfl | exact Or.inr rfl | exact b2_01 _)).2.1 (nar_z (by first | exact Or.inl rfl | exact Or.inr rfl | exact b2_01 _)).2.2 (by decide) rfl rfl (Nat.le_of_ble_eq_true rfl) ?_
    refine WP.aln (pc := 33) hC dX5_tell_33 rfl ?_
    refine WP.gf (pc := 34) hC dX5_tell_34 fl_X5_26 (by decide) rfl rfl ?_
    refine WP.gf (pc := 37) hC dX5_tell_37 fl_X5_157 (by decide) rfl rfl ?_
    rw [up2_s]
    refine WP.ifeq (pc := 40) hC dX5_tell_40 47 (by decide) (fun h40 => ?_) (fun h40 => ?_)
    · refine WP.iconst (pc := 47) hC dX5_tell_47 0 (by decide) ?_
      refine WP.iret (pc := 48) hC rfl dX5_tell_48 ?_ ?_ ?_
      all_goals (first | rfl | exact absurd h40 (by decide) | (unfold nzI; rw [if_pos h22]) | (unfold nzI; rw [if_neg h22]))
    · refine WP.iconst (pc := 43) hC dX5_tell_43 1 (by decide) ?_
      refine WP.goto (pc := 44) hC dX5_tell_44 48 (by decide) ?_
      refine WP.iret (pc := 48) hC rfl dX5_tell_48 ?_ ?_ ?_
      all_goals (first | rfl | exact absurd h40 (by decide) | (unfold nzI; rw [if_pos h22]) | (unfold nzI; rw [if_neg h22]))
  · refine WP.iconst (pc := 25) hC dX5_tell_25 1 (by decide) ?_
    refine WP.goto (pc := 26) hC dX5_tell_26 30 (by decide) ?_
    refine WP.pf (pc := 30) hC dX5_tell_30 fp_X5_157 (nar_z (by first | exact Or.inl rfl | exact Or.inr rfl | exact b2_01 _)).2.1 (nar_z (by first | exact Or.inl rfl | exact Or.inr rfl | exact b2_01 _)).2.2 (by decide) rfl rfl (Nat.le_of_ble_eq_true rfl) ?_
    refine WP.aln (pc := 33) hC dX5_tell_33 rfl ?_
    refine WP.gf (pc := 34) hC dX5_tell_34 fl_X5_26 (by decide) rfl rfl ?_
    refine WP.gf (pc := 37) hC dX5_tell_37 fl_X5_157 (by decide) rfl rfl ?_
    rw [up2_s]
    refine WP.ifeq (pc := 40) hC dX5_tell_40 47 (by decide) (fun h40 => ?_) (fun h40 => ?_)
    · refine WP.iconst (pc := 47) hC dX5_tell_47 0 (by decide) ?_
      refine WP.iret (pc := 48) hC rfl dX5_tell_48 ?_ ?_ ?_
      all_goals (first | rfl | exact absurd h40 (by decide) | (unfold nzI; rw [if_pos h22]) | (unfold nzI; rw [if_neg h22]))
    · refine WP.iconst (pc := 43) hC dX5_tell_43 1 (by decide) ?_
      refine WP.goto (pc := 44) hC dX5_tell_44 48 (by decide) ?_
      refine WP.iret (pc := 48) hC rfl dX5_tell_48 ?_ ?_ ?_
      all_goals (first | rfl | exact absurd h40 (by decide) | (unfold nzI; rw [if_pos h22]) | (unfold nzI; rw [if_neg h22]))
set_option maxHeartbeats 4000000 in
theorem k_X5_undo (l : Launch) (F : FF) (L : Int64) (nx sz : Nat) (hZ : BZ F) (hA : AC F nx sz) : CI l yX5_undo cX5_undo 1 (some .int) (rmx 2 42) wN [.ref 0] F L (if F 8 2 = 0 then -3 else F 8 2 - 1) (if F 8 2 = 0 then F else tbB F nx) L := by
  refine mkI [some (.ref 0)] 0 (by decide) rfl (Nat.le_of_ble_eq_true rfl) ?_
  intro x d hx hC
  subst hx
  have hC : Cx x cX5_undo 1 RX5 (some .int) (rmx 2 42) wN d := hC
  refine WP.aln (pc := 0) hC dX5_undo_0 rfl ?_
  refine WP.gf (pc := 1) hC dX5_undo_1 fl_X5_33 (by decide) rfl rfl ?_
  refine WP.gf (pc := 4) hC dX5_undo_4 fl_X5_160 (by decide) rfl rfl ?_
  refine WP.ifne (pc := 7) hC dX5_undo_7 13 (by decide) (fun h7 => ?_) (fun h7 => ?_)
  · refine WP.aln (pc := 13) hC dX5_undo_13 rfl ?_
    refine WP.gf (pc := 14) hC dX5_undo_14 fl_X5_33 (by decide) rfl rfl ?_
    refine WP.aln (pc := 17) hC dX5_undo_17 rfl ?_
    refine WP.gf (pc := 18) hC dX5_undo_18 fl_X5_26 (by decide) rfl rfl ?_
    refine WP.callVV (pc := 21) hC dX5_undo_21 (k_X0_takeBack _ F L nx sz hA hZ (Nat.pos_of_ne_zero (fun q => h7 (by rw [hA.2.1, q]; decide)))) ml_X5_163 rfl rfl (by decide) rfl (Nat.le_of_ble_eq_true rfl) ⟨by decide, by decide⟩ ?_
    refine WP.aln (pc := 24) hC dX5_undo_24 rfl ?_
    refine WP.gf (pc := 25) hC dX5_undo_25 fl_X5_33 (by decide) rfl rfl ?_
    refine WP.gf (pc := 28) hC dX5_undo_28 fl_X5_160 (by decide) rfl rfl ?_
    refine WP.iret (pc := 31) hC rfl dX5_undo_31 ?_ ?_ ?_
    all_goals (first | rfl | (rw [if_neg h7]; rfl) | (rw [if_neg h7]) | (rw [if_pos h7]))
  · refine WP.bipush (pc := 10) hC dX5_undo_10 (-3) (by decide) ?_
    refine WP.iret (pc := 12) hC rfl dX5_undo_12 ?_ ?_ ?_
    all_goals (first | rfl | (rw [if_neg h7]; rfl) | (rw [if_neg h7]) | (rw [if_pos h7]))
set_option maxHeartbeats 4000000 in
theorem k_X5_fooled (l : Launch) (F : FF) (L : Int64) (nr ns : Nat) (s : Int32) (hN : NR F nr ns) : CI l yX5_fooled cX5_fooled 2 (some .int) (rmx 4 96) wN [.ref 0, .int s] F L (foR F nr ns s) F L := by
  refine mkI [some (.ref 0), some (.int s)] 0 (by decide) rfl (Nat.le_of_ble_eq_true rfl) ?_
  intro x d hx hC
  subst hx
  have hC : Cx x cX5_fooled 2 RX5 (some .int) (rmx 4 96) wN d := hC
  refine WP.aln (pc := 0) hC dX5_fooled_0 rfl ?_
  refine WP.gf (pc := 1) hC dX5_fooled_1 fl_X5_19 (by decide) rfl rfl ?_
  refine WP.iln (pc := 4) hC dX5_fooled_4 rfl ?_
  refine WP.callVI (pc := 5) hC dX5_fooled_5 (k_X3_hasSample _ F L nr ns s hN) ml_X5_104 rfl rfl (by decide) rfl (Nat.le_of_ble_eq_true rfl) ⟨by decide, by decide⟩ ?_
  refine WP.ifne (pc := 8) hC dX5_fooled_8 13 (by decide) (fun h8 => ?_) (fun h8 => ?_)
  · rw [b2_n0] at h8
    obtain ⟨j, hj, rfl⟩ := hasB_of (by have := hN.2.2.2; omega) h8
    have hj4 : j < 4 := by have := hN.2.2.2; omega
    have ej : ix (nI j) = j := ix_nI (by omega)
    refine WP.aln (pc := 13) hC dX5_fooled_13 rfl ?_
    refine WP.iln (pc := 14) hC dX5_fooled_14 rfl ?_
    refine WP.iconst (pc := 15) hC dX5_fooled_15 0 (by decide) ?_
    refine WP.iconst (pc := 16) hC dX5_fooled_16 1 (by decide) ?_
    refine WP.callVI (pc := 17) hC dX5_fooled_17 (k_X5_sayingYesIf _ F L nr ns j false true hN hj) ml_X5_166 rfl rfl (by decide) rfl (Nat.le_of_ble_eq_true rfl) ⟨by decide, by decide⟩ ?_
    refine WP.iret (pc := 20) hC rfl dX5_fooled_20 ?_ ?_ ?_
    all_goals (first | rfl | (unfold foR; rw [if_pos h8, ej]) | (unfold foR; rw [if_neg (by rw [h8]; decide)]))
  · rw [b2_0] at h8
    refine WP.iconst (pc := 11) hC dX5_fooled_11 (-1) (by decide) ?_
    refine WP.iret (pc := 12) hC rfl dX5_fooled_12 ?_ ?_ ?_
    all_goals (first | rfl | (unfold foR; rw [if_pos h8, ej]) | (unfold foR; rw [if_neg (by rw [h8]; decide)]))
set_option maxHeartbeats 4000000 in
theorem k_X5_truly (l : Launch) (F : FF) (L : Int64) (nr ns : Nat) (s : Int32) (hN : NR F nr ns) : CI l yX5_truly cX5_truly 2 (some .int) (rmx 4 96) wN [.ref 0, .int s] F L (trR F nr ns s) F L := by
  refine mkI [some (.ref 0), some (.int s)] 0 (by decide) rfl (Nat.le_of_ble_eq_true rfl) ?_
  intro x d hx hC
  subst hx
  have hC : Cx x cX5_truly 2 RX5 (some .int) (rmx 4 96) wN d := hC
  refine WP.aln (pc := 0) hC dX5_truly_0 rfl ?_
  refine WP.gf (pc := 1) hC dX5_truly_1 fl_X5_19 (by decide) rfl rfl ?_
  refine WP.iln (pc := 4) hC dX5_truly_4 rfl ?_
  refine WP.callVI (pc := 5) hC dX5_truly_5 (k_X3_hasSample _ F L nr ns s hN) ml_X5_104 rfl rfl (by decide) rfl (Nat.le_of_ble_eq_true rfl) ⟨by decide, by decide⟩ ?_
  refine WP.ifne (pc := 8) hC dX5_truly_8 13 (by decide) (fun h8 => ?_) (fun h8 => ?_)
  · rw [b2_n0] at h8
    obtain ⟨j, hj, rfl⟩ := hasB_of (by have := hN.2.2.2; omega) h8
    have hj4 : j < 4 := by have := hN.2.2.2; omega
    have ej : ix (nI j) = j := ix_nI (by omega)
    refine WP.aln (pc := 13) hC dX5_truly_13 rfl ?_
    refine WP.iln (pc := 14) hC dX5_truly_14 rfl ?_
    refine WP.iconst (pc := 15) hC dX5_truly_15 1 (by decide) ?_
    refine WP.iconst (pc := 16) hC dX5_truly_16 0 (by decide) ?_
    refine WP.callVI (pc := 17) hC dX5_truly_17 (k_X5_sayingYesIf _ F L nr ns j true false hN hj) ml_X5_166 rfl rfl (by decide) rfl (Nat.le_of_ble_eq_true rfl) ⟨by decide, by decide⟩ ?_
    refine WP.aln (pc := 20) hC dX5_truly_20 rfl ?_
    refine WP.iln (pc := 21) hC dX5_truly_21 rfl ?_
    refine WP.iconst (pc := 22) hC dX5_truly_22 0 (by decide) ?_
    refine WP.iconst (pc := 23) hC dX5_truly_23 0 (by decide) ?_
    refine WP.callVI (pc := 24) hC dX5_truly_24 (k_X5_sayingYesIf _ F L nr ns j false false hN hj) ml_X5_166 rfl rfl (by decide) rfl (Nat.le_of_ble_eq_true rfl) ⟨by decide, by decide⟩ ?_
    refine WP.iconst (pc := 27) hC dX5_truly_27 (-1) (by decide) ?_
    refine WP.ixor (pc := 28) hC dX5_truly_28 ?_
    refine WP.iand (pc := 29) hC dX5_truly_29 ?_
    refine WP.iret (pc := 30) hC rfl dX5_truly_30 ?_ ?_ ?_
    all_goals (first | rfl | (unfold trR; rw [if_pos h8, ej]) | (unfold trR; rw [if_neg (by rw [h8]; decide)]))
  · rw [b2_0] at h8
    refine WP.iconst (pc := 11) hC dX5_truly_11 (-1) (by decide) ?_
    refine WP.iret (pc := 12) hC rfl dX5_truly_12 ?_ ?_ ?_
    all_goals (first | rfl | (unfold trR; rw [if_pos h8, ej]) | (unfold trR; rw [if_neg (by rw [h8]; decide)]))
theorem tru_f {v : Int32} (h : ¬ v = 1) : tru v = false := by simp [tru, h]
theorem tru_t {v : Int32} (h : v = 1) : tru v = true := by simp [tru, h]
set_option maxHeartbeats 4000000 in
theorem k_X5_hear (l : Launch) (F : FF) (L : Int64) (nr ns h : Nat) (r s p y : Int32) (hN : NR F nr ns) (hH : HD F h) : CI l yX5_hear cX5_hear 5 (some .int) (rmx 2 43) wN [.ref 0, .int r, .int s, .int p, .int y] F L (heR F nr ns h r s p y) (heF F nr ns h r s p y) L := by
  refine mkI [some (.ref 0), some (.int r), some (.int s), some (.int p), some (.int y)] 0 (by decide) rfl (Nat.le_of_ble_eq_true rfl) ?_
  intro x d hx hC
  subst hx
  have hC : Cx x cX5_hear 5 RX5 (some .int) (rmx 2 43) wN d := hC
  refine WP.aln (pc := 0) hC dX5_hear_0 rfl ?_
  refine WP.gf (pc := 1) hC dX5_hear_1 fl_X5_19 (by decide) rfl rfl ?_
  refine WP.iln (pc := 4) hC dX5_hear_4 rfl ?_
  refine WP.iln (pc := 5) hC dX5_hear_5 rfl ?_
  refine WP.callVI (pc := 6) hC dX5_hear_6 (k_X3_hasBoth _ F L nr ns r s hN) ml_X5_123 rfl rfl (by decide) rfl (Nat.le_of_ble_eq_true rfl) ⟨by decide, by decide⟩ ?_
  refine WP.ifne (pc := 9) hC dX5_hear_9 14 (by decide) (fun h9 => ?_) (fun h9 => ?_)
  · rw [b2_n0] at h9
    obtain ⟨i, j, hi, hj, rfl, rfl⟩ := chk_of hN.2.2.1 hN.2.2.2 h9
    have hc9 : chk (nI i) nr (nI j) ns = true := h9
    have hi5 : i < 5 := by have := hN.2.2.1; omega
    have hj4 : j < 4 := by have := hN.2.2.2; omega
    have ei : ix (nI i) = i := ix_nI (by omega)
    have ej : ix (nI j) = j := ix_nI (by omega)
    refine WP.iln (pc := 14) hC dX5_hear_14 rfl ?_
    refine WP.iflt (pc := 15) hC dX5_hear_15 34 (by decide) (fun h15 => ?_) (fun h15 => ?_)
    · have hq : ¬ (0 ≤ p ∧ p ≤ 1 ∧ 0 ≤ y ∧ y ≤ 1) := by
        rintro ⟨q1, q2, q3, q4⟩
        first | exact h31 q4 | exact i_nlt.mpr q3 h25 | exact i_nlt.mpr q2 h20 | exact i_nlt.mpr q1 h15
      refine WP.bipush (pc := 34) hC dX5_hear_34 (-2) (by decide) ?_
      refine WP.iret (pc := 36) hC rfl dX5_hear_36 ?_ ?_ ?_
      all_goals (first | rfl | (unfold heR; rw [if_pos hc9, if_pos hq, if_pos h67]; rfl) | (unfold heF; rw [if_pos hc9, if_pos hq, if_pos h67]; first | (rw [tru_t h45, tru_t h56]; done) | (rw [tru_t h45, tru_f h56]; done) | (rw [tru_f h45, tru_t h56]; done) | (rw [tru_f h45, tru_f h56]; done)) | (unfold heR; rw [if_pos hc9, if_pos hq, if_neg h67]) | (unfold heF; rw [if_pos hc9, if_pos hq, if_neg h67]) | (unfold heR; rw [if_pos hc9, if_neg hq]) | (unfold heF; rw [if_pos hc9, if_neg hq]) | (unfold heR; rw [if_neg hc9]) | (unfold heF; rw [if_neg hc9]))
    · refine WP.iln (pc := 18) hC dX5_hear_18 rfl ?_
      refine WP.iconst (pc := 19) hC dX5_hear_19 1 (by decide) ?_
      refine WP.icgt (pc := 20) hC dX5_hear_20 34 (by decide) (fun h20 => ?_) (fun h20 => ?_)
      · have hq : ¬ (0 ≤ p ∧ p ≤ 1 ∧ 0 ≤ y ∧ y ≤ 1) := by
          rintro ⟨q1, q2, q3, q4⟩
          first | exact h31 q4 | exact i_nlt.mpr q3 h25 | exact i_nlt.mpr q2 h20 | exact i_nlt.mpr q1 h15
        refine WP.bipush (pc := 34) hC dX5_hear_34 (-2) (by decide) ?_
        refine WP.iret (pc := 36) hC rfl dX5_hear_36 ?_ ?_ ?_
        all_goals (first | rfl | (unfold heR; rw [if_pos hc9, if_pos hq, if_pos h67]; rfl) | (unfold heF; rw [if_pos hc9, if_pos hq, if_pos h67]; first | (rw [tru_t h45, tru_t h56]; done) | (rw [tru_t h45, tru_f h56]; done) | (rw [tru_f h45, tru_t h56]; done) | (rw [tru_f h45, tru_f h56]; done)) | (unfold heR; rw [if_pos hc9, if_pos hq, if_neg h67]) | (unfold heF; rw [if_pos hc9, if_pos hq, if_neg h67]) | (unfold heR; rw [if_pos hc9, if_neg hq]) | (unfold heF; rw [if_pos hc9, if_neg hq]) | (unfold heR; rw [if_neg hc9]) | (unfold heF; rw [if_neg hc9]))
      · refine WP.il (pc := 23) hC dX5_hear_23 rfl ?_
        refine WP.iflt (pc := 25) hC dX5_hear_25 34 (by decide) (fun h25 => ?_) (fun h25 => ?_)
        · have hq : ¬ (0 ≤ p ∧ p ≤ 1 ∧ 0 ≤ y ∧ y ≤ 1) := by
            rintro ⟨q1, q2, q3, q4⟩
            first | exact h31 q4 | exact i_nlt.mpr q3 h25 | exact i_nlt.mpr q2 h20 | exact i_nlt.mpr q1 h15
          refine WP.bipush (pc := 34) hC dX5_hear_34 (-2) (by decide) ?_
          refine WP.iret (pc := 36) hC rfl dX5_hear_36 ?_ ?_ ?_
          all_goals (first | rfl | (unfold heR; rw [if_pos hc9, if_pos hq, if_pos h67]; rfl) | (unfold heF; rw [if_pos hc9, if_pos hq, if_pos h67]; first | (rw [tru_t h45, tru_t h56]; done) | (rw [tru_t h45, tru_f h56]; done) | (rw [tru_f h45, tru_t h56]; done) | (rw [tru_f h45, tru_f h56]; done)) | (unfold heR; rw [if_pos hc9, if_pos hq, if_neg h67]) | (unfold heF; rw [if_pos hc9, if_pos hq, if_neg h67]) | (unfold heR; rw [if_pos hc9, if_neg hq]) | (unfold heF; rw [if_pos hc9, if_neg hq]) | (unfold heR; rw [if_neg hc9]) | (unfold heF; rw [if_neg hc9]))
        · refine WP.il (pc := 28) hC dX5_hear_28 rfl ?_
          refine WP.iconst (pc := 30) hC dX5_hear_30 1 (by decide) ?_
          refine WP.icle (pc := 31) hC dX5_hear_31 37 (by decide) (fun h31 => ?_) (fun h31 => ?_)
          · have hq : 0 ≤ p ∧ p ≤ 1 ∧ 0 ≤ y ∧ y ≤ 1 := ⟨i_nlt.mp h15, i_nlt.mp h20, i_nlt.mp h25, h31⟩
            refine WP.aln (pc := 37) hC dX5_hear_37 rfl ?_
            refine WP.gf (pc := 38) hC dX5_hear_38 fl_X5_40 (by decide) rfl rfl ?_
            refine WP.iln (pc := 41) hC dX5_hear_41 rfl ?_
            refine WP.iln (pc := 42) hC dX5_hear_42 rfl ?_
            refine WP.iln (pc := 43) hC dX5_hear_43 rfl ?_
            refine WP.iconst (pc := 44) hC dX5_hear_44 1 (by decide) ?_
            refine WP.icne (pc := 45) hC dX5_hear_45 52 (by decide) (fun h45 => ?_) (fun h45 => ?_)
            · refine WP.iconst (pc := 52) hC dX5_hear_52 0 (by decide) ?_
              refine WP.il (pc := 53) hC dX5_hear_53 rfl ?_
              refine WP.iconst (pc := 55) hC dX5_hear_55 1 (by decide) ?_
              refine WP.icne (pc := 56) hC dX5_hear_56 63 (by decide) (fun h56 => ?_) (fun h56 => ?_)
              · refine WP.iconst (pc := 63) hC dX5_hear_63 0 (by decide) ?_
                refine WP.callVI (pc := 64) hC dX5_hear_64 (k_X2_append _ F L h (nI i) (nI j) false false hH) ml_X5_199 rfl rfl (by decide) rfl (Nat.le_of_ble_eq_true rfl) ⟨by decide, by decide⟩ ?_
                first | rw [show b2 false = b2 (tru p) by rw [tru_f h45]] | skip
                refine WP.ifeq (pc := 67) hC dX5_hear_67 80 (by decide) (fun h67 => ?_) (fun h67 => ?_)
                · rw [b2_0, decide_eq_false_iff_not] at h67
                  rw [if_neg h67]
                  refine WP.bipush (pc := 80) hC dX5_hear_80 (-4) (by decide) ?_
                  refine WP.iret (pc := 82) hC rfl dX5_hear_82 ?_ ?_ ?_
                  all_goals (first | rfl | (unfold heR; rw [if_pos hc9, if_pos hq, if_pos h67]; rfl) | (unfold heF; rw [if_pos hc9, if_pos hq, if_pos h67]; first | (rw [tru_t h45, tru_t h56]; done) | (rw [tru_t h45, tru_f h56]; done) | (rw [tru_f h45, tru_t h56]; done) | (rw [tru_f h45, tru_f h56]; done)) | (unfold heR; rw [if_pos hc9, if_pos hq, if_neg h67]) | (unfold heF; rw [if_pos hc9, if_pos hq, if_neg h67]) | (unfold heR; rw [if_pos hc9, if_neg hq]) | (unfold heF; rw [if_pos hc9, if_neg hq]) | (unfold heR; rw [if_neg hc9]) | (unfold heF; rw [if_neg hc9]))
                · rw [b2_n0, decide_eq_true_eq] at h67
                  rw [if_pos h67]
                  refine WP.aln (pc := 70) hC dX5_hear_70 rfl ?_
                  refine WP.gf (pc := 71) hC dX5_hear_71 fl_X5_40 (by decide) rfl rfl ?_
                  refine WP.gf (pc := 74) hC dX5_hear_74 fl_X5_202 (by decide) rfl rfl ?_
                  refine WP.goto (pc := 77) hC dX5_hear_77 82 (by decide) ?_
                  refine WP.iret (pc := 82) hC rfl dX5_hear_82 ?_ ?_ ?_
                  all_goals (first | rfl | (unfold heR; rw [if_pos hc9, if_pos hq, if_pos h67]; rfl) | (unfold heF; rw [if_pos hc9, if_pos hq, if_pos h67]; first | (rw [tru_t h45, tru_t h56]; done) | (rw [tru_t h45, tru_f h56]; done) | (rw [tru_f h45, tru_t h56]; done) | (rw [tru_f h45, tru_f h56]; done)) | (unfold heR; rw [if_pos hc9, if_pos hq, if_neg h67]) | (unfold heF; rw [if_pos hc9, if_pos hq, if_neg h67]) | (unfold heR; rw [if_pos hc9, if_neg hq]) | (unfold heF; rw [if_pos hc9, if_neg hq]) | (unfold heR; rw [if_neg hc9]) | (unfold heF; rw [if_neg hc9]))
              · refine WP.iconst (pc := 59) hC dX5_hear_59 1 (by decide) ?_
                refine WP.goto (pc := 60) hC dX5_hear_60 64 (by decide) ?_
                refine WP.callVI (pc := 64) hC dX5_hear_64 (k_X2_append _ F L h (nI i) (nI j) false true hH) ml_X5_199 rfl rfl (by decide) rfl (Nat.le_of_ble_eq_true rfl) ⟨by decide, by decide⟩ ?_
                first | rw [show b2 false = b2 (tru p) by rw [tru_f h45]] | skip
                refine WP.ifeq (pc := 67) hC dX5_hear_67 80 (by decide) (fun h67 => ?_) (fun h67 => ?_)
                · rw [b2_0, decide_eq_false_iff_not] at h67
                  rw [if_neg h67]
                  refine WP.bipush (pc := 80) hC dX5_hear_80 (-4) (by decide) ?_
                  refine WP.iret (pc := 82) hC rfl dX5_hear_82 ?_ ?_ ?_
                  all_goals (first | rfl | (unfold heR; rw [if_pos hc9, if_pos hq, if_pos h67]; rfl) | (unfold heF; rw [if_pos hc9, if_pos hq, if_pos h67]; first | (rw [tru_t h45, tru_t h56]; done) | (rw [tru_t h45, tru_f h56]; done) | (rw [tru_f h45, tru_t h56]; done) | (rw [tru_f h45, tru_f h56]; done)) | (unfold heR; rw [if_pos hc9, if_pos hq, if_neg h67]) | (unfold heF; rw [if_pos hc9, if_pos hq, if_neg h67]) | (unfold heR; rw [if_pos hc9, if_neg hq]) | (unfold heF; rw [if_pos hc9, if_neg hq]) | (unfold heR; rw [if_neg hc9]) | (unfold heF; rw [if_neg hc9]))
                · rw [b2_n0, decide_eq_true_eq] at h67
                  rw [if_pos h67]
                  refine WP.aln (pc := 70) hC dX5_hear_70 rfl ?_
                  refine WP.gf (pc := 71) hC dX5_hear_71 fl_X5_40 (by decide) rfl rfl ?_
                  refine WP.gf (pc := 74) hC dX5_hear_74 fl_X5_202 (by decide) rfl rfl ?_
                  refine WP.goto (pc := 77) hC dX5_hear_77 82 (by decide) ?_
                  refine WP.iret (pc := 82) hC rfl dX5_hear_82 ?_ ?_ ?_
                  all_goals (first | rfl | (unfold heR; rw [if_pos hc9, if_pos hq, if_pos h67]; rfl) | (unfold heF; rw [if_pos hc9, if_pos hq, if_pos h67]; first | (rw [tru_t h45, tru_t h56]; done) | (rw [tru_t h45, tru_f h56]; done) | (rw [tru_f h45, tru_t h56]; done) | (rw [tru_f h45, tru_f h56]; done)) | (unfold heR; rw [if_pos hc9, if_pos hq, if_neg h67]) | (unfold heF; rw [if_pos hc9, if_pos hq, if_neg h67]) | (unfold heR; rw [if_pos hc9, if_neg hq]) | (unfold heF; rw [if_pos hc9, if_neg hq]) | (unfold heR; rw [if_neg hc9]) | (unfold heF; rw [if_neg hc9]))
            · refine WP.iconst (pc := 48) hC dX5_hear_48 1 (by decide) ?_
              refine WP.goto (pc := 49) hC dX5_hear_49 53 (by decide) ?_
              refine WP.il (pc := 53) hC dX5_hear_53 rfl ?_
              refine WP.iconst (pc := 55) hC dX5_hear_55 1 (by decide) ?_
              refine WP.icne (pc := 56) hC dX5_hear_56 63 (by decide) (fun h56 => ?_) (fun h56 => ?_)
              · refine WP.iconst (pc := 63) hC dX5_hear_63 0 (by decide) ?_
                refine WP.callVI (pc := 64) hC dX5_hear_64 (k_X2_append _ F L h (nI i) (nI j) true false hH) ml_X5_199 rfl rfl (by decide) rfl (Nat.le_of_ble_eq_true rfl) ⟨by decide, by decide⟩ ?_
                first | rw [show b2 false = b2 (tru p) by rw [tru_f h45]] | skip
                refine WP.ifeq (pc := 67) hC dX5_hear_67 80 (by decide) (fun h67 => ?_) (fun h67 => ?_)
                · rw [b2_0, decide_eq_false_iff_not] at h67
                  rw [if_neg h67]
                  refine WP.bipush (pc := 80) hC dX5_hear_80 (-4) (by decide) ?_
                  refine WP.iret (pc := 82) hC rfl dX5_hear_82 ?_ ?_ ?_
                  all_goals (first | rfl | (unfold heR; rw [if_pos hc9, if_pos hq, if_pos h67]; rfl) | (unfold heF; rw [if_pos hc9, if_pos hq, if_pos h67]; first | (rw [tru_t h45, tru_t h56]; done) | (rw [tru_t h45, tru_f h56]; done) | (rw [tru_f h45, tru_t h56]; done) | (rw [tru_f h45, tru_f h56]; done)) | (unfold heR; rw [if_pos hc9, if_pos hq, if_neg h67]) | (unfold heF; rw [if_pos hc9, if_pos hq, if_neg h67]) | (unfold heR; rw [if_pos hc9, if_neg hq]) | (unfold heF; rw [if_pos hc9, if_neg hq]) | (unfold heR; rw [if_neg hc9]) | (unfold heF; rw [if_neg hc9]))
                · rw [b2_n0, decide_eq_true_eq] at h67
                  rw [if_pos h67]
                  refine WP.aln (pc := 70) hC dX5_hear_70 rfl ?_
                  refine WP.gf (pc := 71) hC dX5_hear_71 fl_X5_40 (by decide) rfl rfl ?_
                  refine WP.gf (pc := 74) hC dX5_hear_74 fl_X5_202 (by decide) rfl rfl ?_
                  refine WP.goto (pc := 77) hC dX5_hear_77 82 (by decide) ?_
                  refine WP.iret (pc := 82) hC rfl dX5_hear_82 ?_ ?_ ?_
                  all_goals (first | rfl | (unfold heR; rw [if_pos hc9, if_pos hq, if_pos h67]; rfl) | (unfold heF; rw [if_pos hc9, if_pos hq, if_pos h67]; first | (rw [tru_t h45, tru_t h56]; done) | (rw [tru_t h45, tru_f h56]; done) | (rw [tru_f h45, tru_t h56]; done) | (rw [tru_f h45, tru_f h56]; done)) | (unfold heR; rw [if_pos hc9, if_pos hq, if_neg h67]) | (unfold heF; rw [if_pos hc9, if_pos hq, if_neg h67]) | (unfold heR; rw [if_pos hc9, if_neg hq]) | (unfold heF; rw [if_pos hc9, if_neg hq]) | (unfold heR; rw [if_neg hc9]) | (unfold heF; rw [if_neg hc9]))
              · refine WP.iconst (pc := 59) hC dX5_hear_59 1 (by decide) ?_
                refine WP.goto (pc := 60) hC dX5_hear_60 64 (by decide) ?_
                refine WP.callVI (pc := 64) hC dX5_hear_64 (k_X2_append _ F L h (nI i) (nI j) true true hH) ml_X5_199 rfl rfl (by decide) rfl (Nat.le_of_ble_eq_true rfl) ⟨by decide, by decide⟩ ?_
                first | rw [show b2 false = b2 (tru p) by rw [tru_f h45]] | skip
                refine WP.ifeq (pc := 67) hC dX5_hear_67 80 (by decide) (fun h67 => ?_) (fun h67 => ?_)
                · rw [b2_0, decide_eq_false_iff_not] at h67
                  rw [if_neg h67]
                  refine WP.bipush (pc := 80) hC dX5_hear_80 (-4) (by decide) ?_
                  refine WP.iret (pc := 82) hC rfl dX5_hear_82 ?_ ?_ ?_
                  all_goals (first | rfl | (unfold heR; rw [if_pos hc9, if_pos hq, if_pos h67]; rfl) | (unfold heF; rw [if_pos hc9, if_pos hq, if_pos h67]; first | (rw [tru_t h45, tru_t h56]; done) | (rw [tru_t h45, tru_f h56]; done) | (rw [tru_f h45, tru_t h56]; done) | (rw [tru_f h45, tru_f h56]; done)) | (unfold heR; rw [if_pos hc9, if_pos hq, if_neg h67]) | (unfold heF; rw [if_pos hc9, if_pos hq, if_neg h67]) | (unfold heR; rw [if_pos hc9, if_neg hq]) | (unfold heF; rw [if_pos hc9, if_neg hq]) | (unfold heR; rw [if_neg hc9]) | (unfold heF; rw [if_neg hc9]))
                · rw [b2_n0, decide_eq_true_eq] at h67
                  rw [if_pos h67]
                  refine WP.aln (pc := 70) hC dX5_hear_70 rfl ?_
                  refine WP.gf (pc := 71) hC dX5_hear_71 fl_X5_40 (by decide) rfl rfl ?_
                  refine WP.gf (pc := 74) hC dX5_hear_74 fl_X5_202 (by decide) rfl rfl ?_
                  refine WP.goto (pc := 77) hC dX5_hear_77 82 (by decide) ?_
                  refine WP.iret (pc := 82) hC rfl dX5_hear_82 ?_ ?_ ?_
                  all_goals (first | rfl | (unfold heR; rw [if_pos hc9, if_pos hq, if_pos h67]; rfl) | (unfold heF; rw [if_pos hc9, if_pos hq, if_pos h67]; first | (rw [tru_t h45, tru_t h56]; done) | (rw [tru_t h45, tru_f h56]; done) | (rw [tru_f h45, tru_t h56]; done) | (rw [tru_f h45, tru_f h56]; done)) | (unfold heR; rw [if_pos hc9, if_pos hq, if_neg h67]) | (unfold heF; rw [if_pos hc9, if_pos hq, if_neg h67]) | (unfold heR; rw [if_pos hc9, if_neg hq]) | (unfold heF; rw [if_pos hc9, if_neg hq]) | (unfold heR; rw [if_neg hc9]) | (unfold heF; rw [if_neg hc9]))
          · have hq : ¬ (0 ≤ p ∧ p ≤ 1 ∧ 0 ≤ y ∧ y ≤ 1) := by
              rintro ⟨q1, q2, q3, q4⟩
              first | exact h31 q4 | exact i_nlt.mpr q3 h25 | exact i_nlt.mpr q2 h20 | exact i_nlt.mpr q1 h15
            refine WP.bipush (pc := 34) hC dX5_hear_34 (-2) (by decide) ?_
            refine WP.iret (pc := 36) hC rfl dX5_hear_36 ?_ ?_ ?_
            all_goals (first | rfl | (unfold heR; rw [if_pos hc9, if_pos hq, if_pos h67]; rfl) | (unfold heF; rw [if_pos hc9, if_pos hq, if_pos h67]; first | (rw [tru_t h45, tru_t h56]; done) | (rw [tru_t h45, tru_f h56]; done) | (rw [tru_f h45, tru_t h56]; done) | (rw [tru_f h45, tru_f h56]; done)) | (unfold heR; rw [if_pos hc9, if_pos hq, if_neg h67]) | (unfold heF; rw [if_pos hc9, if_pos hq, if_neg h67]) | (unfold heR; rw [if_pos hc9, if_neg hq]) | (unfold heF; rw [if_pos hc9, if_neg hq]) | (unfold heR; rw [if_neg hc9]) | (unfold heF; rw [if_neg hc9]))
  · rw [b2_0] at h9
    have hc9 : ¬ chk r nr s ns = true := by unfold chk; rw [h9]; decide
    refine WP.iconst (pc := 12) hC dX5_hear_12 (-1) (by decide) ?_
    refine WP.iret (pc := 13) hC rfl dX5_hear_13 ?_ ?_ ?_
    all_goals (first | rfl | (unfold heR; rw [if_pos hc9, if_pos hq, if_pos h67]; rfl) | (unfold heF; rw [if_pos hc9, if_pos hq, if_pos h67]; first | (rw [tru_t h45, tru_t h56]; done) | (rw [tru_t h45, tru_f h56]; done) | (rw [tru_f h45, tru_t h56]; done) | (rw [tru_f h45, tru_f h56]; done)) | (unfold heR; rw [if_pos hc9, if_pos hq, if_neg h67]) | (unfold heF; rw [if_pos hc9, if_pos hq, if_neg h67]) | (unfold heR; rw [if_pos hc9, if_neg hq]) | (unfold heF; rw [if_pos hc9, if_neg hq]) | (unfold heR; rw [if_neg hc9]) | (unfold heF; rw [if_neg hc9]))
set_option maxHeartbeats 4000000 in
theorem k_X5_unhear (l : Launch) (F : FF) (L : Int64)  : CI l yX5_unhear cX5_unhear 2 (some .int) (rmx 0 0) wN [.ref 0] F L (F 10 4) (up2 F 10 4 0) L := by
  refine mkI [some (.ref 0), none] 1 (by decide) rfl (Nat.le_of_ble_eq_true rfl) ?_
  intro x d hx hC
  subst hx
  have hC : Cx x cX5_unhear 2 RX5 (some .int) (rmx 0 0) wN d := hC
  refine WP.aln (pc := 0) hC dX5_unhear_0 rfl ?_
  refine WP.gf (pc := 1) hC dX5_unhear_1 fl_X5_40 (by decide) rfl rfl ?_
  refine WP.gf (pc := 4) hC dX5_unhear_4 fl_X5_202 (by decide) rfl rfl ?_
  refine WP.isn (lv' := [_, _]) (pc := 7) hC dX5_unhear_7 rfl (by decide) rfl ?_
  refine WP.aln (pc := 8) hC dX5_unhear_8 rfl ?_
  refine WP.gf (pc := 9) hC dX5_unhear_9 fl_X5_40 (by decide) rfl rfl ?_
  refine WP.iconst (pc := 12) hC dX5_unhear_12 0 (by decide) ?_
  refine WP.pf (pc := 13) hC dX5_unhear_13 fp_X5_202 rfl rfl (by decide) rfl rfl (Nat.le_of_ble_eq_true rfl) ?_
  refine WP.iln (pc := 16) hC dX5_unhear_16 rfl ?_
  refine WP.iret (pc := 17) hC rfl dX5_unhear_17 ?_ ?_ ?_
  all_goals (rfl)
set_option maxHeartbeats 4000000 in
theorem k_X5_expect (l : Launch) (F : FF) (L : Int64) (nr ns h : Nat) (r : Int32) (hN : NR F nr ns) (hH : HD F h) : CI l yX5_expect cX5_expect 4 (some .int) (rmx 4 95) wN [.ref 0, .int r] F L (exR F nr ns h r) F L := by
  refine mkI [some (.ref 0), some (.int r), none, none] 2 (by decide) rfl (Nat.le_of_ble_eq_true rfl) ?_
  intro x d hx hC
  subst hx
  have hC : Cx x cX5_expect 4 RX5 (some .int) (rmx 4 95) wN d := hC
  refine WP.aln (pc := 0) hC dX5_expect_0 rfl ?_
  refine WP.gf (pc := 1) hC dX5_expect_1 fl_X5_19 (by decide) rfl rfl ?_
  refine WP.iln (pc := 4) hC dX5_expect_4 rfl ?_
  refine WP.callVI (pc := 5) hC dX5_expect_5 (k_X3_hasReader _ F L nr ns r hN) ml_X5_88 rfl rfl (by decide) rfl (Nat.le_of_ble_eq_true rfl) ⟨by decide, by decide⟩ ?_
  refine WP.ifne (pc := 8) hC dX5_expect_8 13 (by decide) (fun h8 => ?_) (fun h8 => ?_)
  · rw [b2_n0] at h8
    obtain ⟨i, hi, rfl⟩ := hasB_of hN.2.2.1 h8
    have hi5 : i < 5 := by have := hN.2.2.1; omega
    have ei : ix (nI i) = i := ix_nI (by omega)
    have loop : ∀ e, e ≤ 10 → WP x 4 wN d (QI x wN d (exR F nr ns h (nI i)) F L) 17 [some (.ref 0), some (.int (nI i)), some (.int (nI (bits (fun e => agN F ns i (nI e) h) e))), some (.int (nI e))] [] F L := by
      refine loop_c (n := 10) (P := fun e => WP x 4 wN d (QI x wN d (exR F nr ns h (nI i)) F L) 17 [some (.ref 0), some (.int (nI i)), some (.int (nI (bits (fun e => agN F ns i (nI e) h) e))), some (.int (nI e))] [] F L) ?_
      intro e he0 ih
      refine WP.iln (pc := 17) hC dX5_expect_17 rfl ?_
      refine WP.bipush (pc := 18) hC dX5_expect_18 9 (by decide) ?_
      refine WP.icgt (pc := 20) hC dX5_expect_20 51 (by decide) (fun h20 => ?_) (fun h20 => ?_)
      · have he9 : e = 10 := by
          have := (nI_ltI (a := 9) (by decide) (by omega)).mp h20
          omega
        subst he9
        refine WP.iln (pc := 51) hC dX5_expect_51 rfl ?_
        refine WP.iret (pc := 52) hC rfl dX5_expect_52 ?_ ?_ ?_
        all_goals (first | rfl | (unfold exR; rw [if_pos h8, ei]))
      · have he : e < 10 := by
          have := (nI_leI (b := 9) (by omega) (by decide)).mp (i_nlt.mp h20)
          omega
        have hv := ih he
        refine WP.aln (pc := 23) hC dX5_expect_23 rfl ?_
        refine WP.gf (pc := 24) hC dX5_expect_24 fl_X5_40 (by decide) rfl rfl ?_
        refine WP.aln (pc := 27) hC dX5_expect_27 rfl ?_
        refine WP.gf (pc := 28) hC dX5_expect_28 fl_X5_19 (by decide) rfl rfl ?_
        refine WP.iln (pc := 31) hC dX5_expect_31 rfl ?_
        refine WP.iln (pc := 32) hC dX5_expect_32 rfl ?_
        refine WP.callVI (pc := 33) hC dX5_expect_33 (k_X2_agrees _ F L h nr ns i (nI e) hH hN hi) ml_X5_203 rfl rfl (by decide) rfl (Nat.le_of_ble_eq_true rfl) ⟨by decide, by decide⟩ ?_
        refine WP.ifeq (pc := 36) hC dX5_expect_36 45 (by decide) (fun h36 => ?_) (fun h36 => ?_)
        · refine WP.iinc (lv' := [_, _, _, _]) (pc := 45) hC dX5_expect_45 rfl (_ + 1) rfl rfl (by decide) rfl ?_
          refine WP.goto (pc := 48) hC dX5_expect_48 17 (by decide) ?_
          rw [nIp1]
          first | (rw [b2_n0] at h36; rw [bits_t (f := fun e => agN F ns i (nI e) h) h36] at hv; exact hv) | (rw [b2_0] at h36; rw [bits_f (f := fun e => agN F ns i (nI e) h) h36] at hv; exact hv)
        · refine WP.iln (pc := 39) hC dX5_expect_39 rfl ?_
          refine WP.iconst (pc := 40) hC dX5_expect_40 1 (by decide) ?_
          refine WP.iln (pc := 41) hC dX5_expect_41 rfl ?_
          refine WP.ishl (pc := 42) hC dX5_expect_42 ?_
          refine WP.ior (pc := 43) hC dX5_expect_43 ?_
          rw [shX e he, or_bitX e he _ (bits_lt _ _)]
          refine WP.isn (lv' := [_, _, _, _]) (pc := 44) hC dX5_expect_44 rfl (by decide) rfl ?_
          refine WP.iinc (lv' := [_, _, _, _]) (pc := 45) hC dX5_expect_45 rfl (_ + 1) rfl rfl (by decide) rfl ?_
          refine WP.goto (pc := 48) hC dX5_expect_48 17 (by decide) ?_
          rw [nIp1]
          first | (rw [b2_n0] at h36; rw [bits_t (f := fun e => agN F ns i (nI e) h) h36] at hv; exact hv) | (rw [b2_0] at h36; rw [bits_f (f := fun e => agN F ns i (nI e) h) h36] at hv; exact hv)
    refine WP.iconst (pc := 13) hC dX5_expect_13 0 (by decide) ?_
    refine WP.isn (lv' := [_, _, _, _]) (pc := 14) hC dX5_expect_14 rfl (by decide) rfl ?_
    refine WP.iconst (pc := 15) hC dX5_expect_15 0 (by decide) ?_
    refine WP.isn (lv' := [_, _, _, _]) (pc := 16) hC dX5_expect_16 rfl (by decide) rfl ?_
    exact loop 0 (by decide)
  · rw [b2_0] at h8
    refine WP.iconst (pc := 11) hC dX5_expect_11 (-1) (by decide) ?_
    refine WP.iret (pc := 12) hC rfl dX5_expect_12 ?_ ?_ ?_
    all_goals (first | rfl | (unfold exR; rw [if_neg (by rw [h8]; decide)]))
set_option maxHeartbeats 4000000 in
theorem k_X5_seed (l : Launch) (F : FF) (L : Int64) (v : Int64) : CL l yX5_seed cX5_seed 5 (some .long) (rmx 0 0) wN [.ref 0, .long v] F L (L) F v := by
  refine mkL [some (.ref 0), some (.long v), none, none, none] 2 (by decide) rfl (Nat.le_of_ble_eq_true rfl) ?_
  intro x d hx hC
  subst hx
  have hC : Cx x cX5_seed 5 RX5 (some .long) (rmx 0 0) wN d := hC
  refine WP.aln (pc := 0) hC dX5_seed_0 rfl ?_
  refine WP.gf (pc := 1) hC dX5_seed_1 fl_X5_236 (by decide) rfl rfl ?_
  refine WP.lsn (lv' := [_, _, _, _, _]) (pc := 4) hC dX5_seed_4 rfl (by decide) rfl ?_
  refine WP.aln (pc := 5) hC dX5_seed_5 rfl ?_
  refine WP.lln (pc := 6) hC dX5_seed_6 rfl ?_
  refine WP.pfl (pc := 7) hC dX5_seed_7 cwN_L fp_X5_236 (by decide) rfl rfl (Nat.le_of_ble_eq_true rfl) ?_
  refine WP.lln (pc := 10) hC dX5_seed_10 rfl ?_
  refine WP.lret (pc := 11) hC rfl dX5_seed_11 ?_ ?_ ?_
  all_goals (rfl)
set_option maxHeartbeats 4000000 in
theorem k_X5_keep (l : Launch) (F : FF) (L : Int64) (s : Int32) (hZ : BZ F) : CI l yX5_keep cX5_keep 2 (some .int) (rmx 2 40) wN [.ref 0, .int s] F L (kpR F s) (kpF F s) L := by
  refine mkI [some (.ref 0), some (.int s)] 0 (by decide) rfl (Nat.le_of_ble_eq_true rfl) ?_
  intro x d hx hC
  subst hx
  have hC : Cx x cX5_keep 2 RX5 (some .int) (rmx 2 40) wN d := hC
  have hz := hZ 19 (by decide) (by decide)
  refine WP.iln (pc := 0) hC dX5_keep_0 rfl ?_
  refine WP.iflt (pc := 1) hC dX5_keep_1 9 (by decide) (fun h1 => ?_) (fun h1 => ?_)
  · have h9 : ¬ hasB s 2 = true := by
      unfold hasB
      rw [Bool.and_eq_true, decide_eq_true_eq, decide_eq_true_eq]
      rintro ⟨q1, q2⟩
      first | exact h6 q2 | exact i_nlt.mpr q1 h1
    refine WP.iconst (pc := 9) hC dX5_keep_9 (-1) (by decide) ?_
    refine WP.iret (pc := 10) hC rfl dX5_keep_10 ?_ ?_ ?_
    all_goals (first | rfl | (unfold kpR; rw [if_pos h9, up2_n _ _ (Or.inl (by decide)), up2_n _ _ (Or.inl (by decide)), cpB_n _ _ (by omega), cpB_n _ _ (by omega)]) | (unfold kpF; rw [if_pos h9, ej]) | (unfold kpR; rw [if_neg h9]) | (unfold kpF; rw [if_neg h9]))
  · refine WP.iln (pc := 4) hC dX5_keep_4 rfl ?_
    refine WP.iconst (pc := 5) hC dX5_keep_5 2 (by decide) ?_
    refine WP.iclt (pc := 6) hC dX5_keep_6 11 (by decide) (fun h6 => ?_) (fun h6 => ?_)
    · have h9 : hasB s 2 = true := by
        unfold hasB
        rw [Bool.and_eq_true, decide_eq_true_eq, decide_eq_true_eq]
        exact ⟨i_nlt.mp h1, h6⟩
      obtain ⟨j, hj, rfl⟩ := hasB_of (by decide) h9
      have ej : ix (nI j) = j := ix_nI (by omega)
      refine WP.aln (pc := 11) hC dX5_keep_11 rfl ?_
      refine WP.gf (pc := 12) hC dX5_keep_12 fl_X5_44 (by decide) rfl rfl ?_
      refine WP.iln (pc := 15) hC dX5_keep_15 rfl ?_
      refine WP.ral (pc := 16) hC dX5_keep_16 j rfl hj (by decide) rfl (by decide) rfl ?_
      refine WP.aln (pc := 17) hC dX5_keep_17 rfl ?_
      refine WP.gf (pc := 18) hC dX5_keep_18 fl_X5_26 (by decide) rfl rfl ?_
      refine WP.callVV (pc := 21) hC dX5_keep_21 (k_X1_copyFrom _ F L (j + 34) 19 (by omega) (by omega) (by omega) hz.1 hz.2) ml_X5_190 rfl rfl (show j + 34 < 37 by omega) (cw_b (by omega) _ _) (Nat.le_of_ble_eq_true rfl) ⟨by decide, by decide⟩ ?_
      refine WP.aln (pc := 24) hC dX5_keep_24 rfl ?_
      refine WP.gf (pc := 25) hC dX5_keep_25 fl_X5_48 (by decide) rfl rfl ?_
      refine WP.iln (pc := 28) hC dX5_keep_28 rfl ?_
      refine WP.iconst (pc := 29) hC dX5_keep_29 1 (by decide) ?_
      refine WP.zas (pc := 30) hC dX5_keep_30 j rfl hj (Or.inr rfl) (by decide) rfl rfl (by decide) ?_
      refine WP.aln (pc := 31) hC dX5_keep_31 rfl ?_
      refine WP.gf (pc := 32) hC dX5_keep_32 fl_X5_26 (by decide) rfl rfl ?_
      refine WP.callVI (pc := 35) hC dX5_keep_35 (k_X1_paperCount _ _ L 19 (by decide)) ml_X5_253 rfl rfl (by decide) rfl (Nat.le_of_ble_eq_true rfl) ⟨by decide, by decide⟩ ?_
      refine WP.iret (pc := 38) hC rfl dX5_keep_38 ?_ ?_ ?_
      all_goals (first | rfl | (unfold kpR; rw [if_pos h9, up2_n _ _ (Or.inl (by decide)), up2_n _ _ (Or.inl (by decide)), cpB_n _ _ (by omega), cpB_n _ _ (by omega)]) | (unfold kpF; rw [if_pos h9, ej]) | (unfold kpR; rw [if_neg h9]) | (unfold kpF; rw [if_neg h9]))
    · have h9 : ¬ hasB s 2 = true := by
        unfold hasB
        rw [Bool.and_eq_true, decide_eq_true_eq, decide_eq_true_eq]
        rintro ⟨q1, q2⟩
        first | exact h6 q2 | exact i_nlt.mpr q1 h1
      refine WP.iconst (pc := 9) hC dX5_keep_9 (-1) (by decide) ?_
      refine WP.iret (pc := 10) hC rfl dX5_keep_10 ?_ ?_ ?_
      all_goals (first | rfl | (unfold kpR; rw [if_pos h9, up2_n _ _ (Or.inl (by decide)), up2_n _ _ (Or.inl (by decide)), cpB_n _ _ (by omega), cpB_n _ _ (by omega)]) | (unfold kpF; rw [if_pos h9, ej]) | (unfold kpR; rw [if_neg h9]) | (unfold kpF; rw [if_neg h9]))
set_option maxHeartbeats 4000000 in
theorem k_X5_again (l : Launch) (F : FF) (L : Int64) (s : Int32) (hZ : BZ F) : CI l yX5_again cX5_again 2 (some .int) (rmx 2 40) wN [.ref 0, .int s] F L (agR F s) (agF F s) L := by
  refine mkI [some (.ref 0), some (.int s)] 0 (by decide) rfl (Nat.le_of_ble_eq_true rfl) ?_
  intro x d hx hC
  subst hx
  have hC : Cx x cX5_again 2 RX5 (some .int) (rmx 2 40) wN d := hC
  refine WP.iln (pc := 0) hC dX5_again_0 rfl ?_
  refine WP.iflt (pc := 1) hC dX5_again_1 9 (by decide) (fun h1 => ?_) (fun h1 => ?_)
  · have h9 : ¬ hasB s 2 = true := by
      unfold hasB
      rw [Bool.and_eq_true, decide_eq_true_eq, decide_eq_true_eq]
      rintro ⟨q1, q2⟩
      first | exact h6 q2 | exact i_nlt.mpr q1 h1
    refine WP.iconst (pc := 9) hC dX5_again_9 (-1) (by decide) ?_
    refine WP.iret (pc := 10) hC rfl dX5_again_10 ?_ ?_ ?_
    all_goals (first | rfl | (unfold agR; rw [if_pos h9, ej, if_neg h17]; rfl) | (unfold agF; rw [if_pos h9, ej, if_neg h17]) | (unfold agR; rw [if_pos h9, ej, if_pos h17]) | (unfold agF; rw [if_pos h9, ej, if_pos h17]) | (unfold agR; rw [if_neg h9]) | (unfold agF; rw [if_neg h9]))
  · refine WP.iln (pc := 4) hC dX5_again_4 rfl ?_
    refine WP.iconst (pc := 5) hC dX5_again_5 2 (by decide) ?_
    refine WP.iclt (pc := 6) hC dX5_again_6 11 (by decide) (fun h6 => ?_) (fun h6 => ?_)
    · have h9 : hasB s 2 = true := by
        unfold hasB
        rw [Bool.and_eq_true, decide_eq_true_eq, decide_eq_true_eq]
        exact ⟨i_nlt.mp h1, h6⟩
      obtain ⟨j, hj, rfl⟩ := hasB_of (by decide) h9
      have ej : ix (nI j) = j := ix_nI (by omega)
      refine WP.aln (pc := 11) hC dX5_again_11 rfl ?_
      refine WP.gf (pc := 12) hC dX5_again_12 fl_X5_48 (by decide) rfl rfl ?_
      refine WP.iln (pc := 15) hC dX5_again_15 rfl ?_
      refine WP.zal (pc := 16) hC dX5_again_16 j rfl hj (by decide) rfl (by decide) ?_
      refine WP.ifne (pc := 17) hC dX5_again_17 23 (by decide) (fun h17 => ?_) (fun h17 => ?_)
      · refine WP.aln (pc := 23) hC dX5_again_23 rfl ?_
        refine WP.gf (pc := 24) hC dX5_again_24 fl_X5_26 (by decide) rfl rfl ?_
        refine WP.aln (pc := 27) hC dX5_again_27 rfl ?_
        refine WP.gf (pc := 28) hC dX5_again_28 fl_X5_44 (by decide) rfl rfl ?_
        refine WP.iln (pc := 31) hC dX5_again_31 rfl ?_
        refine WP.ral (pc := 32) hC dX5_again_32 j rfl hj (by decide) rfl (by decide) rfl ?_
        refine WP.callVV (pc := 33) hC dX5_again_33 (k_X1_copyFrom _ F L 19 (j + 34) (by omega) (by omega) (by omega) (hZ (j + 34) (by omega) (by omega)).1 (hZ (j + 34) (by omega) (by omega)).2) ml_X5_190 rfl rfl (by decide) rfl (Nat.le_of_ble_eq_true rfl) ⟨by decide, by decide⟩ ?_
        refine WP.aln (pc := 36) hC dX5_again_36 rfl ?_
        refine WP.gf (pc := 37) hC dX5_again_37 fl_X5_33 (by decide) rfl rfl ?_
        refine WP.callVV (pc := 40) hC dX5_again_40 (k_X0_clear _ _ L) ml_X5_81 rfl rfl (by decide) rfl (Nat.le_of_ble_eq_true rfl) ⟨by decide, by decide⟩ ?_
        refine WP.aln (pc := 43) hC dX5_again_43 rfl ?_
        refine WP.gf (pc := 44) hC dX5_again_44 fl_X5_26 (by decide) rfl rfl ?_
        refine WP.callVI (pc := 47) hC dX5_again_47 (k_X1_paperCount _ _ L 19 (by decide)) ml_X5_253 rfl rfl (by decide) rfl (Nat.le_of_ble_eq_true rfl) ⟨by decide, by decide⟩ ?_
        refine WP.iret (pc := 50) hC rfl dX5_again_50 ?_ ?_ ?_
        all_goals (first | rfl | (unfold agR; rw [if_pos h9, ej, if_neg h17]; rfl) | (unfold agF; rw [if_pos h9, ej, if_neg h17]) | (unfold agR; rw [if_pos h9, ej, if_pos h17]) | (unfold agF; rw [if_pos h9, ej, if_pos h17]) | (unfold agR; rw [if_neg h9]) | (unfold agF; rw [if_neg h9]))
      · refine WP.bipush (pc := 20) hC dX5_again_20 (-3) (by decide) ?_
        refine WP.iret (pc := 22) hC rfl dX5_again_22 ?_ ?_ ?_
        all_goals (first | rfl | (unfold agR; rw [if_pos h9, ej, if_neg h17]; rfl) | (unfold agF; rw [if_pos h9, ej, if_neg h17]) | (unfold agR; rw [if_pos h9, ej, if_pos h17]) | (unfold agF; rw [if_pos h9, ej, if_pos h17]) | (unfold agR; rw [if_neg h9]) | (unfold agF; rw [if_neg h9]))
    · have h9 : ¬ hasB s 2 = true := by
        unfold hasB
        rw [Bool.and_eq_true, decide_eq_true_eq, decide_eq_true_eq]
        rintro ⟨q1, q2⟩
        first | exact h6 q2 | exact i_nlt.mpr q1 h1
      refine WP.iconst (pc := 9) hC dX5_again_9 (-1) (by decide) ?_
      refine WP.iret (pc := 10) hC rfl dX5_again_10 ?_ ?_ ?_
      all_goals (first | rfl | (unfold agR; rw [if_pos h9, ej, if_neg h17]; rfl) | (unfold agF; rw [if_pos h9, ej, if_neg h17]) | (unfold agR; rw [if_pos h9, ej, if_pos h17]) | (unfold agF; rw [if_pos h9, ej, if_pos h17]) | (unfold agR; rw [if_neg h9]) | (unfold agF; rw [if_neg h9]))
set_option maxHeartbeats 4000000 in
theorem k_X5_count (l : Launch) (F : FF) (L : Int64) (nr ns : Nat) (w : Int32) (hN : NR F nr ns) (hZ : BZ F) : CI l yX5_count cX5_count 2 (some .int) (rmx 3 65) wN [.ref 0, .int w] F L (ctR F ns w) F L := by
  refine mkI [some (.ref 0), some (.int w)] 0 (by decide) rfl (Nat.le_of_ble_eq_true rfl) ?_
  intro x d hx hC
  subst hx
  have hC : Cx x cX5_count 2 RX5 (some .int) (rmx 3 65) wN d := hC
  have hz := hZ 19 (by decide) (by decide)
  refine WP.iln (pc := 0) hC dX5_count_0 rfl ?_
  by_cases sw0 : w = 0
  · refine WP.tsIn (pc := 1) hC dX5_count_1 52 (by rw [sw0]; decide) (by rw [sw0]; decide) (off := 51) (by rw [sw0]; rfl) (by decide) ?_
    refine WP.aln (pc := 52) hC dX5_count_52 rfl ?_
    refine WP.gf (pc := 53) hC dX5_count_53 fl_X5_10 (by decide) rfl rfl ?_
    refine WP.gf (pc := 56) hC dX5_count_56 fl_X5_66 (by decide) rfl rfl ?_
    refine WP.iret (pc := 59) hC rfl dX5_count_59 ?_ ?_ ?_
    all_goals (first | rfl | (simp [ctR, sw0]; done) | (simp [ctR, sw1]; done) | (simp [ctR, sw2]; done) | (simp [ctR, sw3, h83]; done) | (simp [ctR, sw4, h99]; done) | (simp [ctR, sw5]; done) | (simp [ctR, sw6]; done) | (simp [ctR, sw7]; done) | (simp [ctR, sw8]; done) | (simp [ctR, sw0, sw1, sw2, sw3, sw4, sw5, sw6, sw7, sw8]; done))
  by_cases sw1 : w = 1
  · refine WP.tsIn (pc := 1) hC dX5_count_1 60 (by rw [sw1]; decide) (by rw [sw1]; decide) (off := 59) (by rw [sw1]; rfl) (by decide) ?_
    refine WP.aln (pc := 60) hC dX5_count_60 rfl ?_
    refine WP.gf (pc := 61) hC dX5_count_61 fl_X5_19 (by decide) rfl rfl ?_
    refine WP.gf (pc := 64) hC dX5_count_64 fl_X5_82 (by decide) rfl rfl ?_
    refine WP.iret (pc := 67) hC rfl dX5_count_67 ?_ ?_ ?_
    all_goals (first | rfl | (simp [ctR, sw0]; done) | (simp [ctR, sw1]; done) | (simp [ctR, sw2]; done) | (simp [ctR, sw3, h83]; done) | (simp [ctR, sw4, h99]; done) | (simp [ctR, sw5]; done) | (simp [ctR, sw6]; done) | (simp [ctR, sw7]; done) | (simp [ctR, sw8]; done) | (simp [ctR, sw0, sw1, sw2, sw3, sw4, sw5, sw6, sw7, sw8]; done))
  by_cases sw2 : w = 2
  · refine WP.tsIn (pc := 1) hC dX5_count_1 68 (by rw [sw2]; decide) (by rw [sw2]; decide) (off := 67) (by rw [sw2]; rfl) (by decide) ?_
    refine WP.aln (pc := 68) hC dX5_count_68 rfl ?_
    refine WP.gf (pc := 69) hC dX5_count_69 fl_X5_19 (by decide) rfl rfl ?_
    refine WP.gf (pc := 72) hC dX5_count_72 fl_X5_85 (by decide) rfl rfl ?_
    refine WP.iret (pc := 75) hC rfl dX5_count_75 ?_ ?_ ?_
    all_goals (first | rfl | (simp [ctR, sw0]; done) | (simp [ctR, sw1]; done) | (simp [ctR, sw2]; done) | (simp [ctR, sw3, h83]; done) | (simp [ctR, sw4, h99]; done) | (simp [ctR, sw5]; done) | (simp [ctR, sw6]; done) | (simp [ctR, sw7]; done) | (simp [ctR, sw8]; done) | (simp [ctR, sw0, sw1, sw2, sw3, sw4, sw5, sw6, sw7, sw8]; done))
  by_cases sw3 : w = 3
  · refine WP.tsIn (pc := 1) hC dX5_count_1 76 (by rw [sw3]; decide) (by rw [sw3]; decide) (off := 75) (by rw [sw3]; rfl) (by decide) ?_
    refine WP.aln (pc := 76) hC dX5_count_76 rfl ?_
    refine WP.gf (pc := 77) hC dX5_count_77 fl_X5_26 (by decide) rfl rfl ?_
    refine WP.gf (pc := 80) hC dX5_count_80 fl_X5_153 (by decide) rfl rfl ?_
    refine WP.ifeq (pc := 83) hC dX5_count_83 90 (by decide) (fun h83 => ?_) (fun h83 => ?_)
    · refine WP.iconst (pc := 90) hC dX5_count_90 0 (by decide) ?_
      refine WP.iret (pc := 91) hC rfl dX5_count_91 ?_ ?_ ?_
      all_goals (first | rfl | (simp [ctR, sw0]; done) | (simp [ctR, sw1]; done) | (simp [ctR, sw2]; done) | (simp [ctR, sw3, h83]; done) | (simp [ctR, sw4, h99]; done) | (simp [ctR, sw5]; done) | (simp [ctR, sw6]; done) | (simp [ctR, sw7]; done) | (simp [ctR, sw8]; done) | (simp [ctR, sw0, sw1, sw2, sw3, sw4, sw5, sw6, sw7, sw8]; done))
    · have h83 := hz.1.resolve_left h83
      refine WP.iconst (pc := 86) hC dX5_count_86 1 (by decide) ?_
      refine WP.goto (pc := 87) hC dX5_count_87 91 (by decide) ?_
      refine WP.iret (pc := 91) hC rfl dX5_count_91 ?_ ?_ ?_
      all_goals (first | rfl | (simp [ctR, sw0]; done) | (simp [ctR, sw1]; done) | (simp [ctR, sw2]; done) | (simp [ctR, sw3, h83]; done) | (simp [ctR, sw4, h99]; done) | (simp [ctR, sw5]; done) | (simp [ctR, sw6]; done) | (simp [ctR, sw7]; done) | (simp [ctR, sw8]; done) | (simp [ctR, sw0, sw1, sw2, sw3, sw4, sw5, sw6, sw7, sw8]; done))
  by_cases sw4 : w = 4
  · refine WP.tsIn (pc := 1) hC dX5_count_1 92 (by rw [sw4]; decide) (by rw [sw4]; decide) (off := 91) (by rw [sw4]; rfl) (by decide) ?_
    refine WP.aln (pc := 92) hC dX5_count_92 rfl ?_
    refine WP.gf (pc := 93) hC dX5_count_93 fl_X5_26 (by decide) rfl rfl ?_
    refine WP.gf (pc := 96) hC dX5_count_96 fl_X5_157 (by decide) rfl rfl ?_
    refine WP.ifeq (pc := 99) hC dX5_count_99 106 (by decide) (fun h99 => ?_) (fun h99 => ?_)
    · refine WP.iconst (pc := 106) hC dX5_count_106 0 (by decide) ?_
      refine WP.iret (pc := 107) hC rfl dX5_count_107 ?_ ?_ ?_
      all_goals (first | rfl | (simp [ctR, sw0]; done) | (simp [ctR, sw1]; done) | (simp [ctR, sw2]; done) | (simp [ctR, sw3, h83]; done) | (simp [ctR, sw4, h99]; done) | (simp [ctR, sw5]; done) | (simp [ctR, sw6]; done) | (simp [ctR, sw7]; done) | (simp [ctR, sw8]; done) | (simp [ctR, sw0, sw1, sw2, sw3, sw4, sw5, sw6, sw7, sw8]; done))
    · have h99 := hz.2.resolve_left h99
      refine WP.iconst (pc := 102) hC dX5_count_102 1 (by decide) ?_
      refine WP.goto (pc := 103) hC dX5_count_103 107 (by decide) ?_
      refine WP.iret (pc := 107) hC rfl dX5_count_107 ?_ ?_ ?_
      all_goals (first | rfl | (simp [ctR, sw0]; done) | (simp [ctR, sw1]; done) | (simp [ctR, sw2]; done) | (simp [ctR, sw3, h83]; done) | (simp [ctR, sw4, h99]; done) | (simp [ctR, sw5]; done) | (simp [ctR, sw6]; done) | (simp [ctR, sw7]; done) | (simp [ctR, sw8]; done) | (simp [ctR, sw0, sw1, sw2, sw3, sw4, sw5, sw6, sw7, sw8]; done))
  by_cases sw5 : w = 5
  · refine WP.tsIn (pc := 1) hC dX5_count_1 108 (by rw [sw5]; decide) (by rw [sw5]; decide) (off := 107) (by rw [sw5]; rfl) (by decide) ?_
    refine WP.aln (pc := 108) hC dX5_count_108 rfl ?_
    refine WP.gf (pc := 109) hC dX5_count_109 fl_X5_26 (by decide) rfl rfl ?_
    refine WP.callVI (pc := 112) hC dX5_count_112 (k_X1_paperCount _ F L 19 (by decide)) ml_X5_253 rfl rfl (by decide) rfl (Nat.le_of_ble_eq_true rfl) ⟨by decide, by decide⟩ ?_
    refine WP.iret (pc := 115) hC rfl dX5_count_115 ?_ ?_ ?_
    all_goals (first | rfl | (simp [ctR, sw0]; done) | (simp [ctR, sw1]; done) | (simp [ctR, sw2]; done) | (simp [ctR, sw3, h83]; done) | (simp [ctR, sw4, h99]; done) | (simp [ctR, sw5]; done) | (simp [ctR, sw6]; done) | (simp [ctR, sw7]; done) | (simp [ctR, sw8]; done) | (simp [ctR, sw0, sw1, sw2, sw3, sw4, sw5, sw6, sw7, sw8]; done))
  by_cases sw6 : w = 6
  · refine WP.tsIn (pc := 1) hC dX5_count_1 116 (by rw [sw6]; decide) (by rw [sw6]; decide) (off := 115) (by rw [sw6]; rfl) (by decide) ?_
    refine WP.aln (pc := 116) hC dX5_count_116 rfl ?_
    refine WP.gf (pc := 117) hC dX5_count_117 fl_X5_26 (by decide) rfl rfl ?_
    refine WP.aln (pc := 120) hC dX5_count_120 rfl ?_
    refine WP.gf (pc := 121) hC dX5_count_121 fl_X5_19 (by decide) rfl rfl ?_
    refine WP.callVI (pc := 124) hC dX5_count_124 (k_X1_rightPapers _ F L 19 nr ns (by decide) hN) ml_X5_249 rfl rfl (by decide) rfl (Nat.le_of_ble_eq_true rfl) ⟨by decide, by decide⟩ ?_
    refine WP.iret (pc := 127) hC rfl dX5_count_127 ?_ ?_ ?_
    all_goals (first | rfl | (simp [ctR, sw0]; done) | (simp [ctR, sw1]; done) | (simp [ctR, sw2]; done) | (simp [ctR, sw3, h83]; done) | (simp [ctR, sw4, h99]; done) | (simp [ctR, sw5]; done) | (simp [ctR, sw6]; done) | (simp [ctR, sw7]; done) | (simp [ctR, sw8]; done) | (simp [ctR, sw0, sw1, sw2, sw3, sw4, sw5, sw6, sw7, sw8]; done))
  by_cases sw7 : w = 7
  · refine WP.tsIn (pc := 1) hC dX5_count_1 128 (by rw [sw7]; decide) (by rw [sw7]; decide) (off := 127) (by rw [sw7]; rfl) (by decide) ?_
    refine WP.aln (pc := 128) hC dX5_count_128 rfl ?_
    refine WP.gf (pc := 129) hC dX5_count_129 fl_X5_33 (by decide) rfl rfl ?_
    refine WP.gf (pc := 132) hC dX5_count_132 fl_X5_160 (by decide) rfl rfl ?_
    refine WP.iret (pc := 135) hC rfl dX5_count_135 ?_ ?_ ?_
    all_goals (first | rfl | (simp [ctR, sw0]; done) | (simp [ctR, sw1]; done) | (simp [ctR, sw2]; done) | (simp [ctR, sw3, h83]; done) | (simp [ctR, sw4, h99]; done) | (simp [ctR, sw5]; done) | (simp [ctR, sw6]; done) | (simp [ctR, sw7]; done) | (simp [ctR, sw8]; done) | (simp [ctR, sw0, sw1, sw2, sw3, sw4, sw5, sw6, sw7, sw8]; done))
  by_cases sw8 : w = 8
  · refine WP.tsIn (pc := 1) hC dX5_count_1 136 (by rw [sw8]; decide) (by rw [sw8]; decide) (off := 135) (by rw [sw8]; rfl) (by decide) ?_
    refine WP.aln (pc := 136) hC dX5_count_136 rfl ?_
    refine WP.gf (pc := 137) hC dX5_count_137 fl_X5_40 (by decide) rfl rfl ?_
    refine WP.gf (pc := 140) hC dX5_count_140 fl_X5_202 (by decide) rfl rfl ?_
    refine WP.iret (pc := 143) hC rfl dX5_count_143 ?_ ?_ ?_
    all_goals (first | rfl | (simp [ctR, sw0]; done) | (simp [ctR, sw1]; done) | (simp [ctR, sw2]; done) | (simp [ctR, sw3, h83]; done) | (simp [ctR, sw4, h99]; done) | (simp [ctR, sw5]; done) | (simp [ctR, sw6]; done) | (simp [ctR, sw7]; done) | (simp [ctR, sw8]; done) | (simp [ctR, sw0, sw1, sw2, sw3, sw4, sw5, sw6, sw7, sw8]; done))
  refine WP.tsOut (pc := 1) hC dX5_count_1 144 (by have a0 := lv_neT sw0 (show (0 : Int32).toInt = 0 by decide); have a1 := lv_neT sw1 (show (1 : Int32).toInt = 1 by decide); have a2 := lv_neT sw2 (show (2 : Int32).toInt = 2 by decide); have a3 := lv_neT sw3 (show (3 : Int32).toInt = 3 by decide); have a4 := lv_neT sw4 (show (4 : Int32).toInt = 4 by decide); have a5 := lv_neT sw5 (show (5 : Int32).toInt = 5 by decide); have a6 := lv_neT sw6 (show (6 : Int32).toInt = 6 by decide); have a7 := lv_neT sw7 (show (7 : Int32).toInt = 7 by decide); have a8 := lv_neT sw8 (show (8 : Int32).toInt = 8 by decide); omega) (by decide) ?_
  refine WP.bipush (pc := 144) hC dX5_count_144 (-2) (by decide) ?_
  refine WP.iret (pc := 146) hC rfl dX5_count_146 ?_ ?_ ?_
  all_goals (first | rfl | (simp [ctR, sw0]; done) | (simp [ctR, sw1]; done) | (simp [ctR, sw2]; done) | (simp [ctR, sw3, h83]; done) | (simp [ctR, sw4, h99]; done) | (simp [ctR, sw5]; done) | (simp [ctR, sw6]; done) | (simp [ctR, sw7]; done) | (simp [ctR, sw8]; done) | (simp [ctR, sw0, sw1, sw2, sw3, sw4, sw5, sw6, sw7, sw8]; done))
set_option maxHeartbeats 4000000 in
theorem k_X5_wrong (l : Launch) (F : FF) (L : Int64) (nr ns : Nat) (which : Bool) (hN : NR F nr ns) : CI l yX5_wrong cX5_wrong 6 (some .int) (rmx 1 21) wN [.ref 0, .int (b2 which)] F L (wgR F ns which) F L := by
  refine mkI [some (.ref 0), some (.int (b2 which)), none, none, none, none] 4 (by decide) rfl (Nat.le_of_ble_eq_true rfl) ?_
  intro x d hx hC
  subst hx
  have hC : Cx x cX5_wrong 6 RX5 (some .int) (rmx 1 21) wN d := hC
  have hs4 := hN.2.2.2
  have loop : ∀ s, s ≤ ns → ∀ a4 a5 : Option Value, WP x 6 wN d (QI x wN d (wgR F ns which) F L) 4 [some (.ref 0), some (.int (b2 which)), some (.int (wgN F s)), some (.int (nI s)), a4, a5] [] F L := by
    refine loop_c (n := ns) (P := fun s => ∀ a4 a5 : Option Value, WP x 6 wN d (QI x wN d (wgR F ns which) F L) 4 [some (.ref 0), some (.int (b2 which)), some (.int (wgN F s)), some (.int (nI s)), a4, a5] [] F L) ?_
    intro s hs0 ih a4 a5
    refine WP.iln (pc := 4) hC dX5_wrong_4 rfl ?_
    refine WP.aln (pc := 5) hC dX5_wrong_5 rfl ?_
    refine WP.gf (pc := 6) hC dX5_wrong_6 fl_X5_19 (by decide) rfl rfl ?_
    refine WP.gf (pc := 9) hC dX5_wrong_9 fl_X5_85 (by decide) rfl rfl ?_
    refine WP.icge (pc := 12) hC dX5_wrong_12 70 (by decide) (fun h12 => ?_) (fun h12 => ?_)
    · have hs9 : s = ns := by
        have h12 := h12
        rw [hN.2.1] at h12
        have := (nI_leI (by omega) (by omega)).mp h12
        omega
      subst hs9
      refine WP.iln (pc := 70) hC dX5_wrong_70 rfl ?_
      refine WP.ifeq (pc := 71) hC dX5_wrong_71 78 (by decide) (fun h71 => ?_) (fun h71 => ?_)
      · rw [b2_0] at h71
        refine WP.iln (pc := 78) hC dX5_wrong_78 rfl ?_
        refine WP.callSI (pc := 79) hC dX5_wrong_79 (k_J6_bitCount_0f7a4 _ F L wN _) ml_X5_176 rfl rfl (Nat.le_of_ble_eq_true rfl) ⟨by decide, by decide⟩ ?_
        refine WP.iret (pc := 82) hC rfl dX5_wrong_82 ?_ ?_ ?_
        all_goals (first | rfl | (subst h71; rfl))
      · rw [b2_n0] at h71
        refine WP.iln (pc := 74) hC dX5_wrong_74 rfl ?_
        refine WP.goto (pc := 75) hC dX5_wrong_75 82 (by decide) ?_
        refine WP.iret (pc := 82) hC rfl dX5_wrong_82 ?_ ?_ ?_
        all_goals (first | rfl | (subst h71; rfl))
    · have hs : s < ns := by
        have h12 := h12
        rw [hN.2.1] at h12
        exact (nI_ltI (by omega) (by omega)).mp (i_nle.mp h12)
      have hv := ih hs
      refine WP.aln (pc := 15) hC dX5_wrong_15 rfl ?_
      refine WP.gf (pc := 16) hC dX5_wrong_16 fl_X5_26 (by decide) rfl rfl ?_
      refine WP.gf (pc := 19) hC dX5_wrong_19 fl_X5_113 (by decide) rfl rfl ?_
      refine WP.iln (pc := 22) hC dX5_wrong_22 rfl ?_
      refine WP.callSI (pc := 23) hC dX5_wrong_23 (k_X1_onSample _ F L wN _ s (by omega)) ml_X5_184 rfl rfl (Nat.le_of_ble_eq_true rfl) ⟨by decide, by decide⟩ ?_
      refine WP.is (lv' := [_, _, _, _, _, _]) (pc := 26) hC dX5_wrong_26 rfl (by decide) rfl ?_
      refine WP.aln (pc := 28) hC dX5_wrong_28 rfl ?_
      refine WP.gf (pc := 29) hC dX5_wrong_29 fl_X5_26 (by decide) rfl rfl ?_
      refine WP.gf (pc := 32) hC dX5_wrong_32 fl_X5_120 (by decide) rfl rfl ?_
      refine WP.iln (pc := 35) hC dX5_wrong_35 rfl ?_
      refine WP.callSI (pc := 36) hC dX5_wrong_36 (k_X1_onSample _ F L wN _ s (by omega)) ml_X5_184 rfl rfl (Nat.le_of_ble_eq_true rfl) ⟨by decide, by decide⟩ ?_
      refine WP.is (lv' := [_, _, _, _, _, _]) (pc := 39) hC dX5_wrong_39 rfl (by decide) rfl ?_
      refine WP.iln (pc := 41) hC dX5_wrong_41 rfl ?_
      refine WP.il (pc := 42) hC dX5_wrong_42 rfl ?_
      refine WP.callSI (pc := 44) hC dX5_wrong_44 (k_J6_bitCount_0f7a4 _ F L wN _) ml_X5_176 rfl rfl (Nat.le_of_ble_eq_true rfl) ⟨by decide, by decide⟩ ?_
      refine WP.il (pc := 47) hC dX5_wrong_47 rfl ?_
      refine WP.callSI (pc := 49) hC dX5_wrong_49 (k_J6_bitCount_0f7a4 _ F L wN _) ml_X5_176 rfl rfl (Nat.le_of_ble_eq_true rfl) ⟨by decide, by decide⟩ ?_
      refine WP.icgt (pc := 52) hC dX5_wrong_52 60 (by decide) (fun h52 => ?_) (fun h52 => ?_)
      · refine WP.il (pc := 60) hC dX5_wrong_60 rfl ?_
        refine WP.ior (pc := 62) hC dX5_wrong_62 ?_
        refine WP.isn (lv' := [_, _, _, _, _, _]) (pc := 63) hC dX5_wrong_63 rfl (by decide) rfl ?_
        refine WP.iinc (lv' := [_, _, _, _, _, _]) (pc := 64) hC dX5_wrong_64 rfl (_ + 1) rfl rfl (by decide) rfl ?_
        refine WP.goto (pc := 67) hC dX5_wrong_67 4 (by decide) ?_
        rw [nIp1]
        first | (rw [wgN, if_pos (i_nlt.mp h52)] at hv; exact hv _ _) | (rw [wgN, if_neg (i_nle.mpr h52)] at hv; exact hv _ _)
      · refine WP.il (pc := 55) hC dX5_wrong_55 rfl ?_
        refine WP.goto (pc := 57) hC dX5_wrong_57 62 (by decide) ?_
        refine WP.ior (pc := 62) hC dX5_wrong_62 ?_
        refine WP.isn (lv' := [_, _, _, _, _, _]) (pc := 63) hC dX5_wrong_63 rfl (by decide) rfl ?_
        refine WP.iinc (lv' := [_, _, _, _, _, _]) (pc := 64) hC dX5_wrong_64 rfl (_ + 1) rfl rfl (by decide) rfl ?_
        refine WP.goto (pc := 67) hC dX5_wrong_67 4 (by decide) ?_
        rw [nIp1]
        first | (rw [wgN, if_pos (i_nlt.mp h52)] at hv; exact hv _ _) | (rw [wgN, if_neg (i_nle.mpr h52)] at hv; exact hv _ _)
  refine WP.iconst (pc := 0) hC dX5_wrong_0 0 (by decide) ?_
  refine WP.isn (lv' := [_, _, _, _, _, _]) (pc := 1) hC dX5_wrong_1 rfl (by decide) rfl ?_
  refine WP.iconst (pc := 2) hC dX5_wrong_2 0 (by decide) ?_
  refine WP.isn (lv' := [_, _, _, _, _, _]) (pc := 3) hC dX5_wrong_3 rfl (by decide) rfl ?_
  exact loop 0 (Nat.zero_le _) _ _
