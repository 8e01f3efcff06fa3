/-! ===== NewRays, first half ===== -/
def bits (f : Nat → Bool) : Nat → Nat
  | 0 => 0
  | n + 1 => bits f n + (if f n = true then 2 ^ n else 0)
theorem bits_lt (f : Nat → Bool) : ∀ n, bits f n < 2 ^ n
  | 0 => by simp [bits]
  | n + 1 => by
    have := bits_lt f n
    rw [bits, Nat.pow_succ]
    split <;> omega
theorem or_bit : ∀ i, i < 6 → ∀ a, a < 2 ^ i → nI a ||| nI (2 ^ i) = nI (a + 2 ^ i) := by decide +kernel
theorem or_bit' {i : Nat} (f : Nat → Bool) (hi : i < 6) : nI (bits f i) ||| nI (2 ^ i) = nI (bits f i + 2 ^ i) := or_bit i hi _ (bits_lt f i)
def ix (r : Int32) : Nat := r.toNatClampNeg
theorem ix_nI {i : Nat} (h : i < 100) : ix (nI i) = i := nI_clamp (by omega)
/-- the object's numbers -/
def IN (F : FF) (n nr ns h nx sz : Nat) : Prop := TL F n ∧ NR F nr ns ∧ HD F h ∧ AC F nx sz ∧ BZ F ∧ ∀ j, j < 2 → F 16 j = 0 ∨ F 16 j = 1
/-- what a reader says of a sample -/
def sayF (F : FF) (p t : Bool) (j i : Nat) : Bool := saysB (F 6 i) (F 5 i) (sees (F 6 i) (F 4 i) (lits p (F 7 j)) (rdg (F 19 2) i) t)
def yesS (F : FF) (nr j : Nat) : Nat := bits (sayF F (tru (F 19 3)) (tru (F 19 4)) j) nr
theorem not5 : ∀ n, n ≤ 5 → ∀ a, a < 2 ^ n → nI (2 ^ n - 1) &&& (nI a ^^^ (-1)) = nI (2 ^ n - 1 - a) := by decide +kernel
def rightS (F : FF) (nr j : Nat) : Nat := if 0 < F 7 j then yesS F nr j else 2 ^ nr - 1 - yesS F nr j
def chk (r : Int32) (nr : Nat) (s : Int32) (ns : Nat) : Bool := hasB r nr && hasB s ns

set_option maxHeartbeats 4000000 in
theorem k_X5_sayingYesIf (l : Launch) (F : FF) (L : Int64) (nr ns j : Nat) (p t : Bool) (hN : NR F nr ns) (hj : j < ns) : CI l yX5_sayingYesIf cX5_sayingYesIf 7 (some .int) (rmx 3 70) wN [.ref 0, .int (nI j), .int (b2 p), .int (b2 t)] F L (nI (bits (sayF F p t j) nr)) F L := by
  refine mkI [some (.ref 0), some (.int (nI j)), some (.int (b2 p)), some (.int (b2 t)), none, none, none] 3 (by decide) rfl (Nat.le_of_ble_eq_true rfl) ?_
  intro x d hx hC
  subst hx
  have hC : Cx x cX5_sayingYesIf 7 RX5 (some .int) (rmx 3 70) wN d := hC
  have hr5 := hN.2.2.1
  have loop : ∀ i, i ≤ nr → ∀ a6 : Option Value, WP x 7 wN d (QI x wN d (nI (bits (sayF F p t j) nr)) F L) 6 [some (.ref 0), some (.int (nI j)), some (.int (b2 p)), some (.int (b2 t)), some (.int (nI (bits (sayF F p t j) i))), some (.int (nI i)), a6] [] F L := by
    refine loop_c (n := nr) (P := fun i => ∀ a6 : Option Value, WP x 7 wN d (QI x wN d (nI (bits (sayF F p t j) nr)) F L) 6 [some (.ref 0), some (.int (nI j)), some (.int (b2 p)), some (.int (b2 t)), some (.int (nI (bits (sayF F p t j) i))), some (.int (nI i)), a6] [] F L) ?_
    intro i hi0 ih a6
    refine WP.il (pc := 6) hC dX5_sayingYesIf_6 rfl ?_
    refine WP.aln (pc := 8) hC dX5_sayingYesIf_8 rfl ?_
    refine WP.gf (pc := 9) hC dX5_sayingYesIf_9 fl_X5_19 (by decide) rfl rfl ?_
    refine WP.gf (pc := 12) hC dX5_sayingYesIf_12 fl_X5_82 (by decide) rfl rfl ?_
    refine WP.icge (pc := 15) hC dX5_sayingYesIf_15 80 (by decide) (fun h15 => ?_) (fun h15 => ?_)
    · have hi9 : i = nr := by
        have h15 := h15
        rw [hN.1] at h15
        have := (nI_leI (by omega) (by omega)).mp h15
        omega
      subst hi9
      refine WP.il (pc := 80) hC dX5_sayingYesIf_80 rfl ?_
      refine WP.iret (pc := 82) hC rfl dX5_sayingYesIf_82 ?_ ?_ ?_
      all_goals (rfl)
    · have hi : i < nr := by
        have h15 := h15
        rw [hN.1] at h15
        exact (nI_ltI (by omega) (by omega)).mp (i_nle.mp h15)
      have hv := ih hi
      refine WP.aln (pc := 18) hC dX5_sayingYesIf_18 rfl ?_
      refine WP.gf (pc := 19) hC dX5_sayingYesIf_19 fl_X5_19 (by decide) rfl rfl ?_
      refine WP.il (pc := 22) hC dX5_sayingYesIf_22 rfl ?_
      refine WP.iln (pc := 24) hC dX5_sayingYesIf_24 rfl ?_
      refine WP.aln (pc := 25) hC dX5_sayingYesIf_25 rfl ?_
      refine WP.gf (pc := 26) hC dX5_sayingYesIf_26 fl_X5_19 (by decide) rfl rfl ?_
      refine WP.gf (pc := 29) hC dX5_sayingYesIf_29 fl_X5_91 (by decide) rfl rfl ?_
      refine WP.il (pc := 32) hC dX5_sayingYesIf_32 rfl ?_
      refine WP.ial (pc := 34) hC dX5_sayingYesIf_34 i rfl (by omega) (by decide) rfl (by decide) ?_
      refine WP.aln (pc := 35) hC dX5_sayingYesIf_35 rfl ?_
      refine WP.gf (pc := 36) hC dX5_sayingYesIf_36 fl_X5_26 (by decide) rfl rfl ?_
      refine WP.il (pc := 39) hC dX5_sayingYesIf_39 rfl ?_
      refine WP.callVI (pc := 41) hC dX5_sayingYesIf_41 (k_X1_readingsOf _ F L 19 i (by decide)) ml_X5_100 rfl rfl (by decide) rfl (Nat.le_of_ble_eq_true rfl) ⟨by decide, by decide⟩ ?_
      refine WP.iln (pc := 44) hC dX5_sayingYesIf_44 rfl ?_
      refine WP.iln (pc := 45) hC dX5_sayingYesIf_45 rfl ?_
      refine WP.callVI (pc := 46) hC dX5_sayingYesIf_46 (k_X3_seen _ F L nr ns i j _ _ p t hN hi hj) ml_X5_256 rfl rfl (by decide) rfl (Nat.le_of_ble_eq_true rfl) ⟨by decide, by decide⟩ ?_
      refine WP.is (lv' := [_, _, _, _, _, _, _]) (pc := 49) hC dX5_sayingYesIf_49 rfl (by decide) rfl ?_
      refine WP.aln (pc := 51) hC dX5_sayingYesIf_51 rfl ?_
      refine WP.gf (pc := 52) hC dX5_sayingYesIf_52 fl_X5_19 (by decide) rfl rfl ?_
      refine WP.il (pc := 55) hC dX5_sayingYesIf_55 rfl ?_
      refine WP.il (pc := 57) hC dX5_sayingYesIf_57 rfl ?_
      refine WP.callVI (pc := 59) hC dX5_sayingYesIf_59 (k_X3_saysYes _ F L nr ns i _ hN hi) ml_X5_260 rfl rfl (by decide) rfl (Nat.le_of_ble_eq_true rfl) ⟨by decide, by decide⟩ ?_
      refine WP.ifeq (pc := 62) hC dX5_sayingYesIf_62 74 (by decide) (fun h62 => ?_) (fun h62 => ?_)
      · refine WP.iinc (lv' := [_, _, _, _, _, _, _]) (pc := 74) hC dX5_sayingYesIf_74 rfl (_ + 1) rfl rfl (by decide) rfl ?_
        refine WP.goto (pc := 77) hC dX5_sayingYesIf_77 6 (by decide) ?_
        rw [nIp1]
        first | exact (show bits (sayF F p t j) (i + 1) = bits (sayF F p t j) i + 2 ^ i by rw [bits, if_pos (show sayF F p t j i = true from h62)]) ▸ hv _ | (rw [b2_0] at h62; exact (show bits (sayF F p t j) (i + 1) = bits (sayF F p t j) i by rw [bits, if_neg (by rw [show sayF F p t j i = false from h62]; decide)]; rfl) ▸ hv _)
      · rw [b2_n0] at h62
        refine WP.il (pc := 65) hC dX5_sayingYesIf_65 rfl ?_
        refine WP.iconst (pc := 67) hC dX5_sayingYesIf_67 1 (by decide) ?_
        refine WP.il (pc := 68) hC dX5_sayingYesIf_68 rfl ?_
        refine WP.ishl (pc := 70) hC dX5_sayingYesIf_70 ?_
        refine WP.ior (pc := 71) hC dX5_sayingYesIf_71 ?_
        rw [sh5 i (by omega), or_bit' _ (by omega)]
        refine WP.is (lv' := [_, _, _, _, _, _, _]) (pc := 72) hC dX5_sayingYesIf_72 rfl (by decide) rfl ?_
        refine WP.iinc (lv' := [_, _, _, _, _, _, _]) (pc := 74) hC dX5_sayingYesIf_74 rfl (_ + 1) rfl rfl (by decide) rfl ?_
        refine WP.goto (pc := 77) hC dX5_sayingYesIf_77 6 (by decide) ?_
        rw [nIp1]
        first | exact (show bits (sayF F p t j) (i + 1) = bits (sayF F p t j) i + 2 ^ i by rw [bits, if_pos (show sayF F p t j i = true from h62)]) ▸ hv _ | (rw [b2_0] at h62; exact (show bits (sayF F p t j) (i + 1) = bits (sayF F p t j) i by rw [bits, if_neg (by rw [show sayF F p t j i = false from h62]; decide)]; rfl) ▸ hv _)
  refine WP.iconst (pc := 0) hC dX5_sayingYesIf_0 0 (by decide) ?_
  refine WP.is (lv' := [_, _, _, _, _, _, _]) (pc := 1) hC dX5_sayingYesIf_1 rfl (by decide) rfl ?_
  refine WP.iconst (pc := 3) hC dX5_sayingYesIf_3 0 (by decide) ?_
  refine WP.is (lv' := [_, _, _, _, _, _, _]) (pc := 4) hC dX5_sayingYesIf_4 rfl (by decide) rfl ?_
  exact loop 0 (Nat.zero_le _) _
set_option maxHeartbeats 4000000 in
theorem k_X5_sayingYes (l : Launch) (F : FF) (L : Int64) (nr ns j : Nat) (hN : NR F nr ns) (hZ : BZ F) (hj : j < ns) : CI l yX5_sayingYes cX5_sayingYes 2 (some .int) (rmx 4 96) wN [.ref 0, .int (nI j)] F L (nI (yesS F nr j)) F L := by
  refine mkI [some (.ref 0), some (.int (nI j))] 0 (by decide) rfl (Nat.le_of_ble_eq_true rfl) ?_
  intro x d hx hC
  subst hx
  have hC : Cx x cX5_sayingYes 2 RX5 (some .int) (rmx 4 96) wN d := hC
  have hz := hZ 19 (by decide) (by decide)
  refine WP.aln (pc := 0) hC dX5_sayingYes_0 rfl ?_
  refine WP.iln (pc := 1) hC dX5_sayingYes_1 rfl ?_
  refine WP.aln (pc := 2) hC dX5_sayingYes_2 rfl ?_
  refine WP.gf (pc := 3) hC dX5_sayingYes_3 fl_X5_26 (by decide) rfl rfl ?_
  refine WP.gf (pc := 6) hC dX5_sayingYes_6 fl_X5_153 (by decide) rfl rfl ?_
  refine WP.aln (pc := 9) hC dX5_sayingYes_9 rfl ?_
  refine WP.gf (pc := 10) hC dX5_sayingYes_10 fl_X5_26 (by decide) rfl rfl ?_
  refine WP.gf (pc := 13) hC dX5_sayingYes_13 fl_X5_157 (by decide) rfl rfl ?_
  rw [tru_b2 hz.1, tru_b2 hz.2]
  refine WP.callVI (pc := 16) hC dX5_sayingYes_16 (k_X5_sayingYesIf _ F L nr ns j _ _ hN hj) ml_X5_166 rfl rfl (by decide) rfl (Nat.le_of_ble_eq_true rfl) ⟨by decide, by decide⟩ ?_
  refine WP.iret (pc := 19) hC rfl dX5_sayingYes_19 ?_ ?_ ?_
  all_goals (rfl)
set_option maxHeartbeats 4000000 in
theorem k_X5_sayingRight (l : Launch) (F : FF) (L : Int64) (nr ns j : Nat) (hN : NR F nr ns) (hZ : BZ F) (hj : j < ns) : CI l yX5_sayingRight cX5_sayingRight 3 (some .int) (rmx 5 117) wN [.ref 0, .int (nI j)] F L (nI (rightS F nr j)) F L := by
  refine mkI [some (.ref 0), some (.int (nI j)), none] 1 (by decide) rfl (Nat.le_of_ble_eq_true rfl) ?_
  intro x d hx hC
  subst hx
  have hC : Cx x cX5_sayingRight 3 RX5 (some .int) (rmx 5 117) wN d := hC
  refine WP.aln (pc := 0) hC dX5_sayingRight_0 rfl ?_
  refine WP.iln (pc := 1) hC dX5_sayingRight_1 rfl ?_
  refine WP.callVI (pc := 2) hC dX5_sayingRight_2 (k_X5_sayingYes _ F L nr ns j hN hZ hj) ml_X5_110 rfl rfl (by decide) rfl (Nat.le_of_ble_eq_true rfl) ⟨by decide, by decide⟩ ?_
  refine WP.isn (lv' := [_, _, _]) (pc := 5) hC dX5_sayingRight_5 rfl (by decide) rfl ?_
  refine WP.aln (pc := 6) hC dX5_sayingRight_6 rfl ?_
  refine WP.gf (pc := 7) hC dX5_sayingRight_7 fl_X5_19 (by decide) rfl rfl ?_
  refine WP.iln (pc := 10) hC dX5_sayingRight_10 rfl ?_
  refine WP.callVI (pc := 11) hC dX5_sayingRight_11 (k_X3_isBright _ F L nr ns j hN hj) ml_X5_173 rfl rfl (by decide) rfl (Nat.le_of_ble_eq_true rfl) ⟨by decide, by decide⟩ ?_
  refine WP.ifeq (pc := 14) hC dX5_sayingRight_14 21 (by decide) (fun h14 => ?_) (fun h14 => ?_)
  · rw [b2_0, decide_eq_false_iff_not] at h14
    refine WP.aln (pc := 21) hC dX5_sayingRight_21 rfl ?_
    refine WP.gf (pc := 22) hC dX5_sayingRight_22 fl_X5_19 (by decide) rfl rfl ?_
    refine WP.callVI (pc := 25) hC dX5_sayingRight_25 (k_X3_allReaders _ F L nr ns hN) ml_X5_170 rfl rfl (by decide) rfl (Nat.le_of_ble_eq_true rfl) ⟨by decide, by decide⟩ ?_
    refine WP.iln (pc := 28) hC dX5_sayingRight_28 rfl ?_
    refine WP.iconst (pc := 29) hC dX5_sayingRight_29 (-1) (by decide) ?_
    refine WP.ixor (pc := 30) hC dX5_sayingRight_30 ?_
    refine WP.iand (pc := 31) hC dX5_sayingRight_31 ?_
    refine WP.iret (pc := 32) hC rfl dX5_sayingRight_32 ?_ ?_ ?_
    all_goals (first | rfl | (unfold rightS; rw [if_pos h14]) | (unfold rightS; rw [if_neg h14]; exact not5 nr hN.2.2.1 _ (bits_lt _ _)))
  · rw [b2_n0, decide_eq_true_eq] at h14
    refine WP.iln (pc := 17) hC dX5_sayingRight_17 rfl ?_
    refine WP.goto (pc := 18) hC dX5_sayingRight_18 32 (by decide) ?_
    refine WP.iret (pc := 32) hC rfl dX5_sayingRight_32 ?_ ?_ ?_
    all_goals (first | rfl | (unfold rightS; rw [if_pos h14]) | (unfold rightS; rw [if_neg h14]; exact not5 nr hN.2.2.1 _ (bits_lt _ _)))
def wrR (F : FF) (n : Nat) (v : Int32) : Int32 := if 0 ≤ v ∧ v ≤ 255 then (if n < 36 then F 1 1 + 1 else -4) else -2
def wrF (F : FF) (n : Nat) (v : Int32) : FF := if 0 ≤ v ∧ v ≤ 255 then (if n < 36 then up2 (up2 F 2 n v) 1 1 (F 1 1 + 1) else F) else F
def roomF (F : FF) (n : Nat) : FF := up2 (up2 (up2 (clrB (makeN (F 2) n 36 1 0 0 (up2 (up2 F 3 4 0) 3 5 0)) 19) 8 2 0) 16 0 0) 16 1 0
set_option maxHeartbeats 4000000 in
theorem k_X5_write (l : Launch) (F : FF) (L : Int64) (n : Nat) (v : Int32) (hn : TL F n) : CI l yX5_write cX5_write 2 (some .int) (rmx 1 21) wN [.ref 0, .int v] F L (wrR F n v) (wrF F n v) L := by
  refine mkI [some (.ref 0), some (.int v)] 0 (by decide) rfl (Nat.le_of_ble_eq_true rfl) ?_
  intro x d hx hC
  subst hx
  have hC : Cx x cX5_write 2 RX5 (some .int) (rmx 1 21) wN d := hC
  refine WP.iln (pc := 0) hC dX5_write_0 rfl ?_
  refine WP.iflt (pc := 1) hC dX5_write_1 11 (by decide) (fun h1 => ?_) (fun h1 => ?_)
  · have h9 : ¬ (0 ≤ v ∧ v ≤ 255) := by
      rintro ⟨q1, q2⟩
      first | exact h8 q2 | exact i_nlt.mpr q1 h1
    refine WP.bipush (pc := 11) hC dX5_write_11 (-2) (by decide) ?_
    refine WP.iret (pc := 13) hC rfl dX5_write_13 ?_ ?_ ?_
    all_goals (first | rfl | (unfold wrR; rw [if_pos h9, if_pos h22]; rfl) | (unfold wrF; rw [if_pos h9, if_pos h22]) | (unfold wrR; rw [if_pos h9, if_neg h22]) | (unfold wrF; rw [if_pos h9]) | (unfold wrR; rw [if_neg h9]) | (unfold wrF; rw [if_neg h9]))
  · refine WP.iln (pc := 4) hC dX5_write_4 rfl ?_
    refine WP.sipush (pc := 5) hC dX5_write_5 255 (by decide) ?_
    refine WP.icle (pc := 8) hC dX5_write_8 14 (by decide) (fun h8 => ?_) (fun h8 => ?_)
    · have h9 : 0 ≤ v ∧ v ≤ 255 := ⟨i_nlt.mp h1, h8⟩
      refine WP.aln (pc := 14) hC dX5_write_14 rfl ?_
      refine WP.gf (pc := 15) hC dX5_write_15 fl_X5_10 (by decide) rfl rfl ?_
      refine WP.iln (pc := 18) hC dX5_write_18 rfl ?_
      refine WP.callVI (pc := 19) hC dX5_write_19 (k_X4_append _ F L n v hn) ml_X5_62 rfl rfl (by decide) rfl (Nat.le_of_ble_eq_true rfl) ⟨by decide, by decide⟩ ?_
      refine WP.ifeq (pc := 22) hC dX5_write_22 35 (by decide) (fun h22 => ?_) (fun h22 => ?_)
      · rw [b2_0, decide_eq_false_iff_not] at h22
        refine WP.bipush (pc := 35) hC dX5_write_35 (-4) (by decide) ?_
        refine WP.iret (pc := 37) hC rfl dX5_write_37 ?_ ?_ ?_
        all_goals (first | rfl | (unfold wrR; rw [if_pos h9, if_pos h22]; rfl) | (unfold wrF; rw [if_pos h9, if_pos h22]) | (unfold wrR; rw [if_pos h9, if_neg h22]) | (unfold wrF; rw [if_pos h9]) | (unfold wrR; rw [if_neg h9]) | (unfold wrF; rw [if_neg h9]))
      · rw [b2_n0, decide_eq_true_eq] at h22
        rw [if_pos h22]
        refine WP.aln (pc := 25) hC dX5_write_25 rfl ?_
        refine WP.gf (pc := 26) hC dX5_write_26 fl_X5_10 (by decide) rfl rfl ?_
        refine WP.gf (pc := 29) hC dX5_write_29 fl_X5_66 (by decide) rfl rfl ?_
        refine WP.goto (pc := 32) hC dX5_write_32 37 (by decide) ?_
        refine WP.iret (pc := 37) hC rfl dX5_write_37 ?_ ?_ ?_
        all_goals (first | rfl | (unfold wrR; rw [if_pos h9, if_pos h22]; rfl) | (unfold wrF; rw [if_pos h9, if_pos h22]) | (unfold wrR; rw [if_pos h9, if_neg h22]) | (unfold wrF; rw [if_pos h9]) | (unfold wrR; rw [if_neg h9]) | (unfold wrF; rw [if_neg h9]))
    · have h9 : ¬ (0 ≤ v ∧ v ≤ 255) := by
        rintro ⟨q1, q2⟩
        first | exact h8 q2 | exact i_nlt.mpr q1 h1
      refine WP.bipush (pc := 11) hC dX5_write_11 (-2) (by decide) ?_
      refine WP.iret (pc := 13) hC rfl dX5_write_13 ?_ ?_ ?_
      all_goals (first | rfl | (unfold wrR; rw [if_pos h9, if_pos h22]; rfl) | (unfold wrF; rw [if_pos h9, if_pos h22]) | (unfold wrR; rw [if_pos h9, if_neg h22]) | (unfold wrF; rw [if_pos h9]) | (unfold wrR; rw [if_neg h9]) | (unfold wrF; rw [if_neg h9]))
set_option maxHeartbeats 4000000 in
theorem k_X5_wipe (l : Launch) (F : FF) (L : Int64)  : CI l yX5_wipe cX5_wipe 2 (some .int) (rmx 0 0) wN [.ref 0] F L (F 1 1) (up2 F 1 1 0) L := by
  refine mkI [some (.ref 0), none] 1 (by decide) rfl (Nat.le_of_ble_eq_true rfl) ?_
  intro x d hx hC
  subst hx
  have hC : Cx x cX5_wipe 2 RX5 (some .int) (rmx 0 0) wN d := hC
  refine WP.aln (pc := 0) hC dX5_wipe_0 rfl ?_
  refine WP.gf (pc := 1) hC dX5_wipe_1 fl_X5_10 (by decide) rfl rfl ?_
  refine WP.gf (pc := 4) hC dX5_wipe_4 fl_X5_66 (by decide) rfl rfl ?_
  refine WP.isn (lv' := [_, _]) (pc := 7) hC dX5_wipe_7 rfl (by decide) rfl ?_
  refine WP.aln (pc := 8) hC dX5_wipe_8 rfl ?_
  refine WP.gf (pc := 9) hC dX5_wipe_9 fl_X5_10 (by decide) rfl rfl ?_
  refine WP.iconst (pc := 12) hC dX5_wipe_12 0 (by decide) ?_
  refine WP.pf (pc := 13) hC dX5_wipe_13 fp_X5_66 rfl rfl (by decide) rfl rfl (Nat.le_of_ble_eq_true rfl) ?_
  refine WP.iln (pc := 16) hC dX5_wipe_16 rfl ?_
  refine WP.iret (pc := 17) hC rfl dX5_wipe_17 ?_ ?_ ?_
  all_goals (rfl)
set_option maxHeartbeats 4000000 in
theorem k_X5_fault (l : Launch) (F : FF) (L : Int64) (n : Nat) (hn : TL F n) : CI l yX5_fault cX5_fault 1 (some .int) (rmx 4 94) wN [.ref 0] F L (faultN (F 2) n) F L := by
  refine mkI [some (.ref 0)] 0 (by decide) rfl (Nat.le_of_ble_eq_true rfl) ?_
  intro x d hx hC
  subst hx
  have hC : Cx x cX5_fault 1 RX5 (some .int) (rmx 4 94) wN d := hC
  refine WP.aln (pc := 0) hC dX5_fault_0 rfl ?_
  refine WP.gf (pc := 1) hC dX5_fault_1 fl_X5_10 (by decide) rfl rfl ?_
  refine WP.callVI (pc := 4) hC dX5_fault_4 (k_X4_firstFault _ F L n hn) ml_X5_70 rfl rfl (by decide) rfl (Nat.le_of_ble_eq_true rfl) ⟨by decide, by decide⟩ ?_
  refine WP.iret (pc := 7) hC rfl dX5_fault_7 ?_ ?_ ?_
  all_goals (rfl)
set_option maxHeartbeats 4000000 in
theorem k_X5_room (l : Launch) (F : FF) (L : Int64) (n : Nat) (hn : TL F n) : CI l yX5_room cX5_room 2 (some .int) (rmx 4 94) wN [.ref 0] F L (if faultN (F 2) n = -9 then 10 * roomF F n 3 4 + roomF F n 3 5 else -3) (if faultN (F 2) n = -9 then roomF F n else F) L := by
  refine mkI [some (.ref 0), none] 1 (by decide) rfl (Nat.le_of_ble_eq_true rfl) ?_
  intro x d hx hC
  subst hx
  have hC : Cx x cX5_room 2 RX5 (some .int) (rmx 4 94) wN d := hC
  refine WP.aln (pc := 0) hC dX5_room_0 rfl ?_
  refine WP.gf (pc := 1) hC dX5_room_1 fl_X5_10 (by decide) rfl rfl ?_
  refine WP.callVI (pc := 4) hC dX5_room_4 (k_X4_firstFault _ F L n hn) ml_X5_70 rfl rfl (by decide) rfl (Nat.le_of_ble_eq_true rfl) ⟨by decide, by decide⟩ ?_
  refine WP.bipush (pc := 7) hC dX5_room_7 (-9) (by decide) ?_
  refine WP.iceq (pc := 9) hC dX5_room_9 15 (by decide) (fun h9 => ?_) (fun h9 => ?_)
  · refine WP.aln (pc := 15) hC dX5_room_15 rfl ?_
    refine WP.gf (pc := 16) hC dX5_room_16 fl_X5_19 (by decide) rfl rfl ?_
    refine WP.aln (pc := 19) hC dX5_room_19 rfl ?_
    refine WP.gf (pc := 20) hC dX5_room_20 fl_X5_10 (by decide) rfl rfl ?_
    refine WP.callVV (pc := 23) hC dX5_room_23 (k_X3_make _ F L n hn) ml_X5_74 rfl rfl (by decide) rfl (Nat.le_of_ble_eq_true rfl) ⟨by decide, by decide⟩ ?_
    refine WP.aln (pc := 26) hC dX5_room_26 rfl ?_
    refine WP.gf (pc := 27) hC dX5_room_27 fl_X5_26 (by decide) rfl rfl ?_
    refine WP.callVV (pc := 30) hC dX5_room_30 (k_X1_clear _ _ L 19 (by decide)) ml_X5_78 rfl rfl (by decide) rfl (Nat.le_of_ble_eq_true rfl) ⟨by decide, by decide⟩ ?_
    refine WP.aln (pc := 33) hC dX5_room_33 rfl ?_
    refine WP.gf (pc := 34) hC dX5_room_34 fl_X5_33 (by decide) rfl rfl ?_
    refine WP.callVV (pc := 37) hC dX5_room_37 (k_X0_clear _ _ L) ml_X5_81 rfl rfl (by decide) rfl (Nat.le_of_ble_eq_true rfl) ⟨by decide, by decide⟩ ?_
    refine WP.iconst (pc := 40) hC dX5_room_40 0 (by decide) ?_
    refine WP.isn (lv' := [_, _]) (pc := 41) hC dX5_room_41 rfl (by decide) rfl ?_
    refine WP.iln (pc := 42) hC dX5_room_42 rfl ?_
    refine WP.iconst (pc := 43) hC dX5_room_43 2 (by decide) ?_
    refine WP.icge (pc := 44) hC dX5_room_44 60 (by decide) (fun h44 => absurd h44 (by decide)) (fun h44 => ?_)
    refine WP.aln (pc := 47) hC dX5_room_47 rfl ?_
    refine WP.gf (pc := 48) hC dX5_room_48 fl_X5_48 (by decide) rfl rfl ?_
    refine WP.iln (pc := 51) hC dX5_room_51 rfl ?_
    refine WP.iconst (pc := 52) hC dX5_room_52 0 (by decide) ?_
    refine WP.zas (pc := 53) hC dX5_room_53 0 (by decide) (by decide) (Or.inl rfl) (by decide) rfl rfl (by decide) ?_
    refine WP.iinc (lv' := [_, _]) (pc := 54) hC dX5_room_54 rfl (_ + 1) rfl rfl (by decide) rfl ?_
    refine WP.goto (pc := 57) hC dX5_room_57 42 (by decide) ?_
    refine WP.iln (pc := 42) hC dX5_room_42 rfl ?_
    refine WP.iconst (pc := 43) hC dX5_room_43 2 (by decide) ?_
    refine WP.icge (pc := 44) hC dX5_room_44 60 (by decide) (fun h44 => absurd h44 (by decide)) (fun h44 => ?_)
    refine WP.aln (pc := 47) hC dX5_room_47 rfl ?_
    refine WP.gf (pc := 48) hC dX5_room_48 fl_X5_48 (by decide) rfl rfl ?_
    refine WP.iln (pc := 51) hC dX5_room_51 rfl ?_
    refine WP.iconst (pc := 52) hC dX5_room_52 0 (by decide) ?_
    refine WP.zas (pc := 53) hC dX5_room_53 1 (by decide) (by decide) (Or.inl rfl) (by decide) rfl rfl (by decide) ?_
    refine WP.iinc (lv' := [_, _]) (pc := 54) hC dX5_room_54 rfl (_ + 1) rfl rfl (by decide) rfl ?_
    refine WP.goto (pc := 57) hC dX5_room_57 42 (by decide) ?_
    refine WP.iln (pc := 42) hC dX5_room_42 rfl ?_
    refine WP.iconst (pc := 43) hC dX5_room_43 2 (by decide) ?_
    refine WP.icge (pc := 44) hC dX5_room_44 60 (by decide) (fun h44 => ?_) (fun h44 => absurd h44 (by decide))
    refine WP.bipush (pc := 60) hC dX5_room_60 10 (by decide) ?_
    refine WP.aln (pc := 62) hC dX5_room_62 rfl ?_
    refine WP.gf (pc := 63) hC dX5_room_63 fl_X5_19 (by decide) rfl rfl ?_
    refine WP.gf (pc := 66) hC dX5_room_66 fl_X5_82 (by decide) rfl rfl ?_
    refine WP.imul (pc := 69) hC dX5_room_69 ?_
    refine WP.aln (pc := 70) hC dX5_room_70 rfl ?_
    refine WP.gf (pc := 71) hC dX5_room_71 fl_X5_19 (by decide) rfl rfl ?_
    refine WP.gf (pc := 74) hC dX5_room_74 fl_X5_85 (by decide) rfl rfl ?_
    refine WP.iadd (pc := 77) hC dX5_room_77 ?_
    refine WP.iret (pc := 78) hC rfl dX5_room_78 ?_ ?_ ?_
    all_goals (first | rfl | (rw [if_pos h9]; rfl) | (rw [if_neg h9]))
  · refine WP.bipush (pc := 12) hC dX5_room_12 (-3) (by decide) ?_
    refine WP.iret (pc := 14) hC rfl dX5_room_14 ?_ ?_ ?_
    all_goals (first | rfl | (rw [if_pos h9]; rfl) | (rw [if_neg h9]))
def rdR (F : FF) (nr : Nat) (r w : Int32) : Int32 := if hasB r nr = true then (if w = 0 then F 4 (ix r) else if w = 1 then F 5 (ix r) else if w = 2 then F 6 (ix r) else if w = 3 then rdg (F 19 2) (ix r) else -2) else -1
def smR (F : FF) (nr ns : Nat) (s w : Int32) : Int32 := if hasB s ns = true then (if w = 0 then F 7 (ix s) else if w = 1 then nI (yesS F nr (ix s)) else if w = 2 then prN (F 19 0) (ix s) 5 else if w = 3 then prN (F 19 1) (ix s) 5 else -2) else -1
set_option maxHeartbeats 4000000 in
theorem k_X5_reader (l : Launch) (F : FF) (L : Int64) (nr ns : Nat) (r w : Int32) (hN : NR F nr ns) : CI l yX5_reader cX5_reader 3 (some .int) (rmx 1 21) wN [.ref 0, .int r, .int w] F L (rdR F nr r w) F L := by
  refine mkI [some (.ref 0), some (.int r), some (.int w)] 0 (by decide) rfl (Nat.le_of_ble_eq_true rfl) ?_
  intro x d hx hC
  subst hx
  have hC : Cx x cX5_reader 3 RX5 (some .int) (rmx 1 21) wN d := hC
  refine WP.aln (pc := 0) hC dX5_reader_0 rfl ?_
  refine WP.gf (pc := 1) hC dX5_reader_1 fl_X5_19 (by decide) rfl rfl ?_
  refine WP.iln (pc := 4) hC dX5_reader_4 rfl ?_
  refine WP.callVI (pc := 5) hC dX5_reader_5 (k_X3_hasReader _ F L nr ns r hN) ml_X5_88 rfl rfl (by decide) rfl (Nat.le_of_ble_eq_true rfl) ⟨by decide, by decide⟩ ?_
  refine WP.ifne (pc := 8) hC dX5_reader_8 13 (by decide) (fun h8 => ?_) (fun h8 => ?_)
  · rw [b2_n0] at h8
    obtain ⟨i, hi, rfl⟩ := hasB_of hN.2.2.1 h8
    have hi5 : i < 5 := by have := hN.2.2.1; omega
    refine WP.iln (pc := 13) hC dX5_reader_13 rfl ?_
    by_cases sw0 : w = 0
    · refine WP.tsIn (pc := 14) hC dX5_reader_14 44 (by rw [sw0]; decide) (by rw [sw0]; decide) (off := 30) (by rw [sw0]; rfl) (by decide) ?_
      refine WP.aln (pc := 44) hC dX5_reader_44 rfl ?_
      refine WP.gf (pc := 45) hC dX5_reader_45 fl_X5_19 (by decide) rfl rfl ?_
      refine WP.gf (pc := 48) hC dX5_reader_48 fl_X5_91 (by decide) rfl rfl ?_
      refine WP.iln (pc := 51) hC dX5_reader_51 rfl ?_
      refine WP.ial (pc := 52) hC dX5_reader_52 i rfl hi5 (by decide) rfl (by decide) ?_
      refine WP.iret (pc := 53) hC rfl dX5_reader_53 ?_ ?_ ?_
      all_goals (first | rfl | (simp [rdR, h8]; done) | (simp [rdR, h8, ix_nI (show i < 100 by omega), sw0]; done) | (simp [rdR, h8, ix_nI (show i < 100 by omega), sw1]; done) | (simp [rdR, h8, ix_nI (show i < 100 by omega), sw2]; done) | (simp [rdR, h8, ix_nI (show i < 100 by omega), sw3]; done) | (simp [rdR, h8, sw0, sw1, sw2, sw3]; done))
    by_cases sw1 : w = 1
    · refine WP.tsIn (pc := 14) hC dX5_reader_14 54 (by rw [sw1]; decide) (by rw [sw1]; decide) (off := 40) (by rw [sw1]; rfl) (by decide) ?_
      refine WP.aln (pc := 54) hC dX5_reader_54 rfl ?_
      refine WP.gf (pc := 55) hC dX5_reader_55 fl_X5_19 (by decide) rfl rfl ?_
      refine WP.gf (pc := 58) hC dX5_reader_58 fl_X5_94 (by decide) rfl rfl ?_
      refine WP.iln (pc := 61) hC dX5_reader_61 rfl ?_
      refine WP.ial (pc := 62) hC dX5_reader_62 i rfl hi5 (by decide) rfl (by decide) ?_
      refine WP.iret (pc := 63) hC rfl dX5_reader_63 ?_ ?_ ?_
      all_goals (first | rfl | (simp [rdR, h8]; done) | (simp [rdR, h8, ix_nI (show i < 100 by omega), sw0]; done) | (simp [rdR, h8, ix_nI (show i < 100 by omega), sw1]; done) | (simp [rdR, h8, ix_nI (show i < 100 by omega), sw2]; done) | (simp [rdR, h8, ix_nI (show i < 100 by omega), sw3]; done) | (simp [rdR, h8, sw0, sw1, sw2, sw3]; done))
    by_cases sw2 : w = 2
    · refine WP.tsIn (pc := 14) hC dX5_reader_14 64 (by rw [sw2]; decide) (by rw [sw2]; decide) (off := 50) (by rw [sw2]; rfl) (by decide) ?_
      refine WP.aln (pc := 64) hC dX5_reader_64 rfl ?_
      refine WP.gf (pc := 65) hC dX5_reader_65 fl_X5_19 (by decide) rfl rfl ?_
      refine WP.gf (pc := 68) hC dX5_reader_68 fl_X5_97 (by decide) rfl rfl ?_
      refine WP.iln (pc := 71) hC dX5_reader_71 rfl ?_
      refine WP.ial (pc := 72) hC dX5_reader_72 i rfl hi5 (by decide) rfl (by decide) ?_
      refine WP.iret (pc := 73) hC rfl dX5_reader_73 ?_ ?_ ?_
      all_goals (first | rfl | (simp [rdR, h8]; done) | (simp [rdR, h8, ix_nI (show i < 100 by omega), sw0]; done) | (simp [rdR, h8, ix_nI (show i < 100 by omega), sw1]; done) | (simp [rdR, h8, ix_nI (show i < 100 by omega), sw2]; done) | (simp [rdR, h8, ix_nI (show i < 100 by omega), sw3]; done) | (simp [rdR, h8, sw0, sw1, sw2, sw3]; done))
    by_cases sw3 : w = 3
    · refine WP.tsIn (pc := 14) hC dX5_reader_14 74 (by rw [sw3]; decide) (by rw [sw3]; decide) (off := 60) (by rw [sw3]; rfl) (by decide) ?_
      refine WP.aln (pc := 74) hC dX5_reader_74 rfl ?_
      refine WP.gf (pc := 75) hC dX5_reader_75 fl_X5_26 (by decide) rfl rfl ?_
      refine WP.iln (pc := 78) hC dX5_reader_78 rfl ?_
      refine WP.callVI (pc := 79) hC dX5_reader_79 (k_X1_readingsOf _ F L 19 i (by decide)) ml_X5_100 rfl rfl (by decide) rfl (Nat.le_of_ble_eq_true rfl) ⟨by decide, by decide⟩ ?_
      refine WP.iret (pc := 82) hC rfl dX5_reader_82 ?_ ?_ ?_
      all_goals (first | rfl | (simp [rdR, h8]; done) | (simp [rdR, h8, ix_nI (show i < 100 by omega), sw0]; done) | (simp [rdR, h8, ix_nI (show i < 100 by omega), sw1]; done) | (simp [rdR, h8, ix_nI (show i < 100 by omega), sw2]; done) | (simp [rdR, h8, ix_nI (show i < 100 by omega), sw3]; done) | (simp [rdR, h8, sw0, sw1, sw2, sw3]; done))
    refine WP.tsOut (pc := 14) hC dX5_reader_14 83 (by have a0 := lv_neT sw0 (show (0 : Int32).toInt = 0 by decide); have a1 := lv_neT sw1 (show (1 : Int32).toInt = 1 by decide); have a2 := lv_neT sw2 (show (2 : Int32).toInt = 2 by decide); have a3 := lv_neT sw3 (show (3 : Int32).toInt = 3 by decide); omega) (by decide) ?_
    refine WP.bipush (pc := 83) hC dX5_reader_83 (-2) (by decide) ?_
    refine WP.iret (pc := 85) hC rfl dX5_reader_85 ?_ ?_ ?_
    all_goals (first | rfl | (simp [rdR, h8]; done) | (simp [rdR, h8, ix_nI (show i < 100 by omega), sw0]; done) | (simp [rdR, h8, ix_nI (show i < 100 by omega), sw1]; done) | (simp [rdR, h8, ix_nI (show i < 100 by omega), sw2]; done) | (simp [rdR, h8, ix_nI (show i < 100 by omega), sw3]; done) | (simp [rdR, h8, sw0, sw1, sw2, sw3]; done))
  · rw [b2_0] at h8
    refine WP.iconst (pc := 11) hC dX5_reader_11 (-1) (by decide) ?_
    refine WP.iret (pc := 12) hC rfl dX5_reader_12 ?_ ?_ ?_
    all_goals (first | rfl | (simp [rdR, h8]; done) | (simp [rdR, h8, ix_nI (show i < 100 by omega), sw0]; done) | (simp [rdR, h8, ix_nI (show i < 100 by omega), sw1]; done) | (simp [rdR, h8, ix_nI (show i < 100 by omega), sw2]; done) | (simp [rdR, h8, ix_nI (show i < 100 by omega), sw3]; done) | (simp [rdR, h8, sw0, sw1, sw2, sw3]; done))
set_option maxHeartbeats 4000000 in
theorem k_X5_sample (l : Launch) (F : FF) (L : Int64) (nr ns : Nat) (s w : Int32) (hN : NR F nr ns) (hZ : BZ F) : CI l yX5_sample cX5_sample 3 (some .int) (rmx 5 117) wN [.ref 0, .int s, .int w] F L (smR F nr ns s w) F L := by
  refine mkI [some (.ref 0), some (.int s), some (.int w)] 0 (by decide) rfl (Nat.le_of_ble_eq_true rfl) ?_
  intro x d hx hC
  subst hx
  have hC : Cx x cX5_sample 3 RX5 (some .int) (rmx 5 117) wN d := hC
  refine WP.aln (pc := 0) hC dX5_sample_0 rfl ?_
  refine WP.gf (pc := 1) hC dX5_sample_1 fl_X5_19 (by decide) rfl rfl ?_
  refine WP.iln (pc := 4) hC dX5_sample_4 rfl ?_
  refine WP.callVI (pc := 5) hC dX5_sample_5 (k_X3_hasSample _ F L nr ns s hN) ml_X5_104 rfl rfl (by decide) rfl (Nat.le_of_ble_eq_true rfl) ⟨by decide, by decide⟩ ?_
  refine WP.ifne (pc := 8) hC dX5_sample_8 13 (by decide) (fun h8 => ?_) (fun h8 => ?_)
  · rw [b2_n0] at h8
    obtain ⟨j, hj, rfl⟩ := hasB_of (by have := hN.2.2.2; omega) h8
    have hj4 : j < 4 := by have := hN.2.2.2; omega
    refine WP.iln (pc := 13) hC dX5_sample_13 rfl ?_
    by_cases sw0 : w = 0
    · refine WP.tsIn (pc := 14) hC dX5_sample_14 44 (by rw [sw0]; decide) (by rw [sw0]; decide) (off := 30) (by rw [sw0]; rfl) (by decide) ?_
      refine WP.aln (pc := 44) hC dX5_sample_44 rfl ?_
      refine WP.gf (pc := 45) hC dX5_sample_45 fl_X5_19 (by decide) rfl rfl ?_
      refine WP.gf (pc := 48) hC dX5_sample_48 fl_X5_107 (by decide) rfl rfl ?_
      refine WP.iln (pc := 51) hC dX5_sample_51 rfl ?_
      refine WP.ial (pc := 52) hC dX5_sample_52 j rfl hj4 (by decide) rfl (by decide) ?_
      refine WP.iret (pc := 53) hC rfl dX5_sample_53 ?_ ?_ ?_
      all_goals (first | rfl | (simp [smR, h8]; done) | (simp [smR, h8, ix_nI (show j < 100 by omega), sw0]; done) | (simp [smR, h8, ix_nI (show j < 100 by omega), sw1]; done) | (simp [smR, h8, ix_nI (show j < 100 by omega), sw2]; done) | (simp [smR, h8, ix_nI (show j < 100 by omega), sw3]; done) | (simp [smR, h8, sw0, sw1, sw2, sw3]; done))
    by_cases sw1 : w = 1
    · refine WP.tsIn (pc := 14) hC dX5_sample_14 54 (by rw [sw1]; decide) (by rw [sw1]; decide) (off := 40) (by rw [sw1]; rfl) (by decide) ?_
      refine WP.aln (pc := 54) hC dX5_sample_54 rfl ?_
      refine WP.iln (pc := 55) hC dX5_sample_55 rfl ?_
      refine WP.callVI (pc := 56) hC dX5_sample_56 (k_X5_sayingYes _ F L nr ns j hN hZ hj) ml_X5_110 rfl rfl (by decide) rfl (Nat.le_of_ble_eq_true rfl) ⟨by decide, by decide⟩ ?_
      refine WP.iret (pc := 59) hC rfl dX5_sample_59 ?_ ?_ ?_
      all_goals (first | rfl | (simp [smR, h8]; done) | (simp [smR, h8, ix_nI (show j < 100 by omega), sw0]; done) | (simp [smR, h8, ix_nI (show j < 100 by omega), sw1]; done) | (simp [smR, h8, ix_nI (show j < 100 by omega), sw2]; done) | (simp [smR, h8, ix_nI (show j < 100 by omega), sw3]; done) | (simp [smR, h8, sw0, sw1, sw2, sw3]; done))
    by_cases sw2 : w = 2
    · refine WP.tsIn (pc := 14) hC dX5_sample_14 60 (by rw [sw2]; decide) (by rw [sw2]; decide) (off := 46) (by rw [sw2]; rfl) (by decide) ?_
      refine WP.aln (pc := 60) hC dX5_sample_60 rfl ?_
      refine WP.gf (pc := 61) hC dX5_sample_61 fl_X5_26 (by decide) rfl rfl ?_
      refine WP.gf (pc := 64) hC dX5_sample_64 fl_X5_113 (by decide) rfl rfl ?_
      refine WP.iln (pc := 67) hC dX5_sample_67 rfl ?_
      refine WP.callSI (pc := 68) hC dX5_sample_68 (k_X1_printers _ F L wN _ j hj4) ml_X5_116 rfl rfl (Nat.le_of_ble_eq_true rfl) ⟨by decide, by decide⟩ ?_
      refine WP.iret (pc := 71) hC rfl dX5_sample_71 ?_ ?_ ?_
      all_goals (first | rfl | (simp [smR, h8]; done) | (simp [smR, h8, ix_nI (show j < 100 by omega), sw0]; done) | (simp [smR, h8, ix_nI (show j < 100 by omega), sw1]; done) | (simp [smR, h8, ix_nI (show j < 100 by omega), sw2]; done) | (simp [smR, h8, ix_nI (show j < 100 by omega), sw3]; done) | (simp [smR, h8, sw0, sw1, sw2, sw3]; done))
    by_cases sw3 : w = 3
    · refine WP.tsIn (pc := 14) hC dX5_sample_14 72 (by rw [sw3]; decide) (by rw [sw3]; decide) (off := 58) (by rw [sw3]; rfl) (by decide) ?_
      refine WP.aln (pc := 72) hC dX5_sample_72 rfl ?_
      refine WP.gf (pc := 73) hC dX5_sample_73 fl_X5_26 (by decide) rfl rfl ?_
      refine WP.gf (pc := 76) hC dX5_sample_76 fl_X5_120 (by decide) rfl rfl ?_
      refine WP.iln (pc := 79) hC dX5_sample_79 rfl ?_
      refine WP.callSI (pc := 80) hC dX5_sample_80 (k_X1_printers _ F L wN _ j hj4) ml_X5_116 rfl rfl (Nat.le_of_ble_eq_true rfl) ⟨by decide, by decide⟩ ?_
      refine WP.iret (pc := 83) hC rfl dX5_sample_83 ?_ ?_ ?_
      all_goals (first | rfl | (simp [smR, h8]; done) | (simp [smR, h8, ix_nI (show j < 100 by omega), sw0]; done) | (simp [smR, h8, ix_nI (show j < 100 by omega), sw1]; done) | (simp [smR, h8, ix_nI (show j < 100 by omega), sw2]; done) | (simp [smR, h8, ix_nI (show j < 100 by omega), sw3]; done) | (simp [smR, h8, sw0, sw1, sw2, sw3]; done))
    refine WP.tsOut (pc := 14) hC dX5_sample_14 84 (by have a0 := lv_neT sw0 (show (0 : Int32).toInt = 0 by decide); have a1 := lv_neT sw1 (show (1 : Int32).toInt = 1 by decide); have a2 := lv_neT sw2 (show (2 : Int32).toInt = 2 by decide); have a3 := lv_neT sw3 (show (3 : Int32).toInt = 3 by decide); omega) (by decide) ?_
    refine WP.bipush (pc := 84) hC dX5_sample_84 (-2) (by decide) ?_
    refine WP.iret (pc := 86) hC rfl dX5_sample_86 ?_ ?_ ?_
    all_goals (first | rfl | (simp [smR, h8]; done) | (simp [smR, h8, ix_nI (show j < 100 by omega), sw0]; done) | (simp [smR, h8, ix_nI (show j < 100 by omega), sw1]; done) | (simp [smR, h8, ix_nI (show j < 100 by omega), sw2]; done) | (simp [smR, h8, ix_nI (show j < 100 by omega), sw3]; done) | (simp [smR, h8, sw0, sw1, sw2, sw3]; done))
  · rw [b2_0] at h8
    refine WP.iconst (pc := 11) hC dX5_sample_11 (-1) (by decide) ?_
    refine WP.iret (pc := 12) hC rfl dX5_sample_12 ?_ ?_ ?_
    all_goals (first | rfl | (simp [smR, h8]; done) | (simp [smR, h8, ix_nI (show j < 100 by omega), sw0]; done) | (simp [smR, h8, ix_nI (show j < 100 by omega), sw1]; done) | (simp [smR, h8, ix_nI (show j < 100 by omega), sw2]; done) | (simp [smR, h8, ix_nI (show j < 100 by omega), sw3]; done) | (simp [smR, h8, sw0, sw1, sw2, sw3]; done))
