/-! ===== NewRaysModel: the text and the room ===== -/
def vvM (G : FF) (n : Nat) : Int32 := if G 0 14 = -9 ∧ ix (G 0 13) < n then G 8 (ix (G 0 13)) - 48 else -9
def figV (G : FF) (n : Nat) (lo hi : Int32) : Int32 := if lo ≤ vvM G n ∧ vvM G n ≤ hi then vvM G n else lo
def figF (G : FF) (n : Nat) (lo hi : Int32) : FF := if lo ≤ vvM G n ∧ vvM G n ≤ hi then up2 G 0 13 (nI (ix (G 0 13) + 1)) else up2 G 0 14 (if G 0 14 = -9 then nI (ix (G 0 13)) else G 0 14)
/-- length, place -/
def TI (G : FF) (n a : Nat) : Prop := G 0 12 = nI n ∧ n ≤ 36 ∧ G 0 13 = nI a ∧ a < 60
theorem TI.fig {G : FF} {n a : Nat} {lo hi : Int32} (h : TI G n a) (ha : a < 50) : ∃ b, a ≤ b ∧ b ≤ a + 1 ∧ TI (figF G n lo hi) n b := by
  obtain ⟨h1, h2, h3, h4⟩ := h
  unfold figF
  split
  · refine ⟨a + 1, by omega, by omega, h1, h2, ?_, by omega⟩
    rw [up2_s, h3, ix_nI (by omega)]
  · exact ⟨a, by omega, by omega, h1, h2, h3, h4⟩
theorem TI.up6 {G : FF} {n a k : Nat} {v : Int32} (h : TI G n a) : TI (up2 G 6 k v) n a := h
theorem TI.up7 {G : FF} {n a k : Nat} {v : Int32} (h : TI G n a) : TI (up2 G 7 k v) n a := h
theorem TI.up0 {G : FF} {n a k : Nat} {v : Int32} (h : TI G n a) (h1 : k ≠ 12) (h2 : k ≠ 13) : TI (up2 G 0 k v) n a := by
  unfold TI
  rw [up2_n _ _ (Or.inr (Ne.symm h1)), up2_n _ _ (Or.inr (Ne.symm h2))]
  exact h
theorem figF_row {G : FF} {n k : Nat} {lo hi : Int32} (h : k ≠ 0) : figF G n lo hi k = G k := by
  unfold figF
  split <;> exact up2_row h
theorem figF_9 {G : FF} {n : Nat} {lo hi : Int32} : figF G n lo hi 0 9 = G 0 9 := by
  unfold figF
  split <;> rfl
theorem figF_10 {G : FF} {n : Nat} {lo hi : Int32} : figF G n lo hi 0 10 = G 0 10 := by
  unfold figF
  split <;> rfl
def rd1 (G : FF) : FF := up2 G 0 13 (nI (ix (G 0 13) + 1))
def rd2 (G : FF) (n r : Nat) : FF := up2 (figF (rd1 G) n 0 9) 6 (3 * r) (figV (rd1 G) n 0 9)
def rd3 (G : FF) (n r : Nat) : FF := up2 (figF (rd2 G n r) n 1 9) 6 (3 * r + 1) (figV (rd2 G n r) n 1 9)
def rd4 (G : FF) (n r : Nat) : FF := up2 (figF (rd3 G n r) n 0 3) 6 (3 * r + 2) (figV (rd3 G n r) n 0 3)
def rd5 (G : FF) (n r : Nat) : FF := up2 (rd4 G n r) 0 9 (nI (r + 1))
def sm2 (G : FF) (n s : Nat) : FF := up2 (figF (rd1 G) n 0 9) 7 s (figV (rd1 G) n 0 9)
def sm3 (G : FF) (n s : Nat) : FF := up2 (sm2 G n s) 0 10 (nI (s + 1))
/-- a step of the reading -/
def rtS (G : FF) (n : Nat) : FF := if G 8 (ix (G 0 13)) = 82 ∧ ix (G 0 9) < 5 then rd5 G n (ix (G 0 9)) else if G 8 (ix (G 0 13)) = 83 ∧ ix (G 0 10) < 4 then sm3 G n (ix (G 0 10)) else up2 G 0 14 (nI (ix (G 0 13)))
def rtGo (G : FF) (n : Nat) : Prop := G 0 14 = -9 ∧ ix (G 0 13) < n
def rtN (n : Nat) : Nat → FF → FF
  | 0, G => G
  | f + 1, G => if G 0 14 = -9 ∧ ix (G 0 13) < n then rtN n f (rtS G n) else G
/-- what holds at the loop's head -/
def RI (G : FF) (n a r s : Nat) : Prop := TI G n a ∧ a ≤ 40 ∧ G 0 9 = nI r ∧ r ≤ 5 ∧ G 0 10 = nI s ∧ s ≤ 4
theorem RI.step {G : FF} {n a r s : Nat} (h : RI G n a r s) (ha : a < n) : ∃ b p q, RI (rtS G n) n b p q ∧ a ≤ b ∧ (b = a → ¬ rtS G n 0 14 = -9) ∧ (rtS G n 8 = G 8) := by
  obtain ⟨hT, h40, h9, hr, h10, hs⟩ := h
  have hn36 := hT.2.1
  have ea : ix (G 0 13) = a := by rw [hT.2.2.1, ix_nI (by omega)]
  have er : ix (G 0 9) = r := by rw [h9, ix_nI (by omega)]
  have es : ix (G 0 10) = s := by rw [h10, ix_nI (by omega)]
  have hT1 : TI (rd1 G) n (a + 1) := ⟨hT.1, hT.2.1, by unfold rd1; rw [up2_s, ea], by omega⟩
  unfold rtS
  rw [ea, er, es]
  split
  · rename_i hc
    obtain ⟨b1, l1, l2, t1⟩ := hT1.fig (lo := 0) (hi := 9) (by omega)
    have t2 : TI (rd2 G n r) n b1 := by unfold rd2; exact t1.up6
    obtain ⟨b2, l3, l4, t3⟩ := t2.fig (lo := 1) (hi := 9) (by omega)
    have t4 : TI (rd3 G n r) n b2 := by unfold rd3; exact t3.up6
    obtain ⟨b3, l5, l6, t5⟩ := t4.fig (lo := 0) (hi := 3) (by omega)
    have t6 : TI (rd5 G n r) n b3 := by unfold rd5 rd4; exact t5.up6.up0 (by decide) (by decide)
    refine ⟨b3, r + 1, s, ⟨t6, by omega, by unfold rd5; rw [up2_s], by omega, ?_, hs⟩, by omega, fun e => by omega, ?_⟩
    · unfold rd5
      rw [up2_n _ _ (Or.inr (by decide))]
      unfold rd4
      rw [up2_n _ _ (Or.inl (by decide)), figF_10]
      unfold rd3
      rw [up2_n _ _ (Or.inl (by decide)), figF_10]
      unfold rd2
      rw [up2_n _ _ (Or.inl (by decide)), figF_10]
      unfold rd1
      rw [up2_n _ _ (Or.inr (by decide))]
      exact h10
    · unfold rd5 rd4 rd3 rd2 rd1
      rw [up2_row (by decide), up2_row (by decide), figF_row (by decide), up2_row (by decide), figF_row (by decide), up2_row (by decide), figF_row (by decide), up2_row (by decide)]
  · split
    · rename_i hc0 hc
      obtain ⟨b1, l1, l2, t1⟩ := hT1.fig (lo := 0) (hi := 9) (by omega)
      have t2 : TI (sm3 G n s) n b1 := by unfold sm3 sm2; exact t1.up7.up0 (by decide) (by decide)
      refine ⟨b1, r, s + 1, ⟨t2, by omega, ?_, hr, by unfold sm3; rw [up2_s], by omega⟩, by omega, fun e => by omega, ?_⟩
      · unfold sm3
        rw [up2_n _ _ (Or.inr (by decide))]
        unfold sm2
        rw [up2_n _ _ (Or.inl (by decide)), figF_9]
        unfold rd1
        rw [up2_n _ _ (Or.inr (by decide))]
        exact h9
      · unfold sm3 sm2 rd1
        rw [up2_row (by decide), up2_row (by decide), figF_row (by decide), up2_row (by decide)]
    · refine ⟨a, r, s, ⟨hT.up0 (by decide) (by decide), h40, by rw [up2_n _ _ (Or.inr (by decide))]; exact h9, hr, by rw [up2_n _ _ (Or.inr (by decide))]; exact h10, hs⟩, Nat.le_refl _, fun _ => ?_, up2_row (by decide)⟩
      rw [up2_s]
      intro q
      have := congrArg Int32.toInt q
      rw [nI_toInt (by omega), show (-9 : Int32).toInt = -9 by decide] at this
      omega
theorem RI.fin {n : Nat} : ∀ (f : Nat) {G : FF} {a r s : Nat}, RI G n a r s → ∃ b p q, RI (rtN n f G) n b p q ∧ rtN n f G 8 = G 8
  | 0, G, a, r, s, h => ⟨a, r, s, h, rfl⟩
  | f + 1, G, a, r, s, h => by
    rw [rtN]
    split
    · rename_i hc
      have ea : ix (G 0 13) = a := by rw [h.1.2.2.1, ix_nI (by have := h.1.2.2.2; omega)]
      obtain ⟨b, p, q, h1, h2, h3, h4⟩ := h.step (by rw [← ea]; exact hc.2)
      obtain ⟨b', p', q', h5, h6⟩ := RI.fin f h1
      exact ⟨b', p', q', h5, h6.trans h4⟩
    · exact ⟨a, r, s, h, rfl⟩
def rt0 (G : FF) : FF := up2 (up2 (up2 (up2 G 0 13 0) 0 14 (-9)) 0 9 0) 0 10 0
def rtOk (G : FF) (n : Nat) : Prop := ¬ n = 0 ∧ G 8 0 = 69
def rtF1 (G : FF) (n : Nat) : FF := if ¬ n = 0 ∧ G 8 0 = 69 then rtN n 40 (up2 (rt0 G) 0 13 1) else rt0 G
def rtR1 (G : FF) (n : Nat) : Int32 := if ¬ n = 0 ∧ G 8 0 = 69 then rtN n 40 (up2 (rt0 G) 0 13 1) 0 14 else 0
def wrMR (G : FF) (n : Nat) (v : Int32) : Int32 := if 0 ≤ v ∧ v ≤ 255 then (if n < 36 then G 0 12 + 1 else -4) else -2
def wrMF (G : FF) (n : Nat) (v : Int32) : FF := if 0 ≤ v ∧ v ≤ 255 then (if n < 36 then up2 (up2 G 8 n v) 0 12 (G 0 12 + 1) else G) else G

set_option maxHeartbeats 4000000 in
theorem k_X6_write (l : Launch) (F : FF) (L : Int64) (n : Nat) (v : Int32) (hn : F 0 12 = nI n ∧ n ≤ 36) : CI l yX6_write cX6_write 2 (some .int) (rmx 1 25) wM [.ref 0, .int v] F L (wrMR F n v) (wrMF F n v) L := by
  refine mkI [some (.ref 0), some (.int v)] 0 (by decide) rfl (Nat.le_of_ble_eq_true rfl) ?_
  intro x d hx hC
  subst hx
  have hC : Cx x cX6_write 2 RX6 (some .int) (rmx 1 25) wM d := hC
  obtain ⟨e12, hn36⟩ := hn
  refine WP.iln (pc := 0) hC dX6_write_0 rfl ?_
  refine WP.i2l (pc := 1) hC dX6_write_1 ?_
  refine WP.lconst (pc := 2) hC dX6_write_2 0 (by decide) ?_
  refine WP.ldc2 (pc := 3) hC dX6_write_3 cs_X6_56 ?_
  refine WP.callSI (pc := 6) hC dX6_write_6 (k_X6_in _ F L wM _ _ _) ml_X6_58 rfl rfl (Nat.le_of_ble_eq_true rfl) ⟨by decide, by decide⟩ ?_
  rw [in0255]
  refine WP.ifne (pc := 9) hC dX6_write_9 15 (by decide) (fun h9 => ?_) (fun h9 => ?_)
  · have hq : 0 ≤ v ∧ v ≤ 255 := by
      rw [b2_n0, Bool.and_eq_true, decide_eq_true_eq, decide_eq_true_eq] at h9
      exact h9
    refine WP.aln (pc := 15) hC dX6_write_15 rfl ?_
    refine WP.gf (pc := 16) hC dX6_write_16 fl_X6_62 (by decide) rfl rfl ?_
    refine WP.bipush (pc := 19) hC dX6_write_19 36 (by decide) ?_
    refine WP.icne (pc := 21) hC dX6_write_21 27 (by decide) (fun h21 => ?_) (fun h21 => ?_)
    · have h9 : n < 36 := by
        rcases Nat.lt_or_ge n 36 with z | z
        · exact z
        · exact absurd (by rw [e12, show n = 36 by omega]; rfl) h21
      refine WP.aln (pc := 27) hC dX6_write_27 rfl ?_
      refine WP.gf (pc := 28) hC dX6_write_28 fl_X6_31 (by decide) rfl rfl ?_
      refine WP.aln (pc := 31) hC dX6_write_31 rfl ?_
      refine WP.gf (pc := 32) hC dX6_write_32 fl_X6_62 (by decide) rfl rfl ?_
      refine WP.iln (pc := 35) hC dX6_write_35 rfl ?_
      refine WP.ias (pc := 36) hC dX6_write_36 n e12 h9 (by decide) rfl rfl (by decide) ?_
      refine WP.aln (pc := 37) hC dX6_write_37 rfl ?_
      refine WP.dup (pc := 38) hC dX6_write_38 rfl ?_
      refine WP.gf (pc := 39) hC dX6_write_39 fl_X6_62 (by decide) rfl rfl ?_
      refine WP.iconst (pc := 42) hC dX6_write_42 1 (by decide) ?_
      refine WP.iadd (pc := 43) hC dX6_write_43 ?_
      refine WP.pf (pc := 44) hC dX6_write_44 fp_X6_62 rfl rfl (by decide) rfl rfl (Nat.le_of_ble_eq_true rfl) ?_
      refine WP.aln (pc := 47) hC dX6_write_47 rfl ?_
      refine WP.gf (pc := 48) hC dX6_write_48 fl_X6_62 (by decide) rfl rfl ?_
      refine WP.iret (pc := 51) hC rfl dX6_write_51 ?_ ?_ ?_
      all_goals (first | rfl | (unfold wrMR; rw [if_pos hq, if_pos h9]; rfl) | (unfold wrMF; rw [if_pos hq, if_pos h9]; rfl) | (unfold wrMR; rw [if_pos hq, if_neg hh]) | (unfold wrMF; rw [if_pos hq, if_neg hh]) | (unfold wrMR; rw [if_neg hq]) | (unfold wrMF; rw [if_neg hq]))
    · have hh : ¬ n < 36 := by
        rw [e12] at h21
        have := (nI_eq (b := 36) (by omega) (by decide)).mp h21
        omega
      refine WP.bipush (pc := 24) hC dX6_write_24 (-4) (by decide) ?_
      refine WP.iret (pc := 26) hC rfl dX6_write_26 ?_ ?_ ?_
      all_goals (first | rfl | (unfold wrMR; rw [if_pos hq, if_pos h9]; rfl) | (unfold wrMF; rw [if_pos hq, if_pos h9]; rfl) | (unfold wrMR; rw [if_pos hq, if_neg hh]) | (unfold wrMF; rw [if_pos hq, if_neg hh]) | (unfold wrMR; rw [if_neg hq]) | (unfold wrMF; rw [if_neg hq]))
  · have hq : ¬ (0 ≤ v ∧ v ≤ 255) := by
      rw [b2_0, Bool.and_eq_false_iff, decide_eq_false_iff_not, decide_eq_false_iff_not] at h9
      rintro ⟨q1, q2⟩
      rcases h9 with z | z
      · exact z q1
      · exact z q2
    refine WP.bipush (pc := 12) hC dX6_write_12 (-2) (by decide) ?_
    refine WP.iret (pc := 14) hC rfl dX6_write_14 ?_ ?_ ?_
    all_goals (first | rfl | (unfold wrMR; rw [if_pos hq, if_pos h9]; rfl) | (unfold wrMF; rw [if_pos hq, if_pos h9]; rfl) | (unfold wrMR; rw [if_pos hq, if_neg hh]) | (unfold wrMF; rw [if_pos hq, if_neg hh]) | (unfold wrMR; rw [if_neg hq]) | (unfold wrMF; rw [if_neg hq]))
set_option maxHeartbeats 4000000 in
theorem k_X6_wipe (l : Launch) (F : FF) (L : Int64)  : CI l yX6_wipe cX6_wipe 2 (some .int) (rmx 0 0) wM [.ref 0] F L (F 0 12) (up2 F 0 12 0) L := by
  refine mkI [some (.ref 0), none] 1 (by decide) rfl (Nat.le_of_ble_eq_true rfl) ?_
  intro x d hx hC
  subst hx
  have hC : Cx x cX6_wipe 2 RX6 (some .int) (rmx 0 0) wM d := hC
  refine WP.aln (pc := 0) hC dX6_wipe_0 rfl ?_
  refine WP.gf (pc := 1) hC dX6_wipe_1 fl_X6_62 (by decide) rfl rfl ?_
  refine WP.isn (lv' := [_, _]) (pc := 4) hC dX6_wipe_4 rfl (by decide) rfl ?_
  refine WP.aln (pc := 5) hC dX6_wipe_5 rfl ?_
  refine WP.iconst (pc := 6) hC dX6_wipe_6 0 (by decide) ?_
  refine WP.pf (pc := 7) hC dX6_wipe_7 fp_X6_62 rfl rfl (by decide) rfl rfl (Nat.le_of_ble_eq_true rfl) ?_
  refine WP.iln (pc := 10) hC dX6_wipe_10 rfl ?_
  refine WP.iret (pc := 11) hC rfl dX6_wipe_11 ?_ ?_ ?_
  all_goals (rfl)
set_option maxHeartbeats 4000000 in
theorem k_X6_figure (l : Launch) (F : FF) (L : Int64) (n a : Nat) (lo hi : Int32) (hT : TI F n a) (hlo : 0 ≤ lo) : CI l yX6_figure cX6_figure 4 (some .int) (rmx 1 25) wM [.ref 0, .int lo, .int hi] F L (figV F n lo hi) (figF F n lo hi) L := by
  refine mkI [some (.ref 0), some (.int lo), some (.int hi), none] 1 (by decide) rfl (Nat.le_of_ble_eq_true rfl) ?_
  intro x d hx hC
  subst hx
  have hC : Cx x cX6_figure 4 RX6 (some .int) (rmx 1 25) wM d := hC
  obtain ⟨e12, hn36, e13, ha⟩ := hT
  have ea : ix (F 0 13) = a := by rw [e13, ix_nI (by omega)]
  refine WP.aln (pc := 0) hC dX6_figure_0 rfl ?_
  refine WP.gf (pc := 1) hC dX6_figure_1 fl_X6_66 (by decide) rfl rfl ?_
  refine WP.bipush (pc := 4) hC dX6_figure_4 (-9) (by decide) ?_
  refine WP.icne (pc := 6) hC dX6_figure_6 35 (by decide) (fun h6 => ?_) (fun h6 => ?_)
  · have hvv : vvM F n = -9 := by
      unfold vvM
      rw [ea, if_neg]
      rintro ⟨q1, q2⟩
      first | exact h6 q1 | (rw [e12, e13] at h17; exact nI_ge q2 (by omega) h17)
    refine WP.bipush (pc := 35) hC dX6_figure_35 (-9) (by decide) ?_
    rw [← hvv]
    refine WP.isn (lv' := [_, _, _, _]) (pc := 37) hC dX6_figure_37 rfl (by decide) rfl ?_
    refine WP.iln (pc := 38) hC dX6_figure_38 rfl ?_
    refine WP.i2l (pc := 39) hC dX6_figure_39 ?_
    refine WP.iln (pc := 40) hC dX6_figure_40 rfl ?_
    refine WP.i2l (pc := 41) hC dX6_figure_41 ?_
    refine WP.iln (pc := 42) hC dX6_figure_42 rfl ?_
    refine WP.i2l (pc := 43) hC dX6_figure_43 ?_
    refine WP.callSI (pc := 44) hC dX6_figure_44 (k_X6_in _ F L wM _ _ _) ml_X6_58 rfl rfl (Nat.le_of_ble_eq_true rfl) ⟨by decide, by decide⟩ ?_
    rw [inL_w]
    refine WP.ifne (pc := 47) hC dX6_figure_47 76 (by decide) (fun h47 => ?_) (fun h47 => ?_)
    · have hq : lo ≤ vvM F n ∧ vvM F n ≤ hi := by
        rw [b2_n0, Bool.and_eq_true, decide_eq_true_eq, decide_eq_true_eq] at h47
        exact h47
      refine WP.aln (pc := 76) hC dX6_figure_76 rfl ?_
      refine WP.dup (pc := 77) hC dX6_figure_77 rfl ?_
      refine WP.gf (pc := 78) hC dX6_figure_78 fl_X6_69 (by decide) rfl rfl ?_
      refine WP.iconst (pc := 81) hC dX6_figure_81 1 (by decide) ?_
      refine WP.iadd (pc := 82) hC dX6_figure_82 ?_
      rw [show F 0 13 + 1 = nI (ix (F 0 13) + 1) by rw [ea, e13]; exact nIp1 a]
      refine WP.pf (pc := 83) hC dX6_figure_83 fp_X6_69 rfl rfl (by decide) rfl rfl (Nat.le_of_ble_eq_true rfl) ?_
      refine WP.iln (pc := 86) hC dX6_figure_86 rfl ?_
      refine WP.iret (pc := 87) hC rfl dX6_figure_87 ?_ ?_ ?_
      all_goals (first | rfl | (unfold figV; rw [if_pos hq]) | (unfold figF; rw [if_pos hq]) | (unfold figV; rw [if_neg hq]) | (unfold figF; rw [if_neg hq, if_pos h57, ea, e13]) | (unfold figF; rw [if_neg hq, if_neg h57]))
    · have hq : ¬ (lo ≤ vvM F n ∧ vvM F n ≤ hi) := by
        rw [b2_0, Bool.and_eq_false_iff, decide_eq_false_iff_not, decide_eq_false_iff_not] at h47
        rintro ⟨q1, q2⟩
        rcases h47 with z | z
        · exact z q1
        · exact z q2
      refine WP.aln (pc := 50) hC dX6_figure_50 rfl ?_
      refine WP.aln (pc := 51) hC dX6_figure_51 rfl ?_
      refine WP.gf (pc := 52) hC dX6_figure_52 fl_X6_66 (by decide) rfl rfl ?_
      refine WP.bipush (pc := 55) hC dX6_figure_55 (-9) (by decide) ?_
      refine WP.icne (pc := 57) hC dX6_figure_57 67 (by decide) (fun h57 => ?_) (fun h57 => ?_)
      · refine WP.aln (pc := 67) hC dX6_figure_67 rfl ?_
        refine WP.gf (pc := 68) hC dX6_figure_68 fl_X6_66 (by decide) rfl rfl ?_
        refine WP.pf (pc := 71) hC dX6_figure_71 fp_X6_66 rfl rfl (by decide) rfl rfl (Nat.le_of_ble_eq_true rfl) ?_
        refine WP.iln (pc := 74) hC dX6_figure_74 rfl ?_
        refine WP.iret (pc := 75) hC rfl dX6_figure_75 ?_ ?_ ?_
        all_goals (first | rfl | (unfold figV; rw [if_pos hq]) | (unfold figF; rw [if_pos hq]) | (unfold figV; rw [if_neg hq]) | (unfold figF; rw [if_neg hq, if_pos h57, ea, e13]) | (unfold figF; rw [if_neg hq, if_neg h57]))
      · refine WP.aln (pc := 60) hC dX6_figure_60 rfl ?_
        refine WP.gf (pc := 61) hC dX6_figure_61 fl_X6_69 (by decide) rfl rfl ?_
        refine WP.goto (pc := 64) hC dX6_figure_64 71 (by decide) ?_
        refine WP.pf (pc := 71) hC dX6_figure_71 fp_X6_66 rfl rfl (by decide) rfl rfl (Nat.le_of_ble_eq_true rfl) ?_
        refine WP.iln (pc := 74) hC dX6_figure_74 rfl ?_
        refine WP.iret (pc := 75) hC rfl dX6_figure_75 ?_ ?_ ?_
        all_goals (first | rfl | (unfold figV; rw [if_pos hq]) | (unfold figF; rw [if_pos hq]) | (unfold figV; rw [if_neg hq]) | (unfold figF; rw [if_neg hq, if_pos h57, ea, e13]) | (unfold figF; rw [if_neg hq, if_neg h57]))
  · refine WP.aln (pc := 9) hC dX6_figure_9 rfl ?_
    refine WP.gf (pc := 10) hC dX6_figure_10 fl_X6_69 (by decide) rfl rfl ?_
    refine WP.aln (pc := 13) hC dX6_figure_13 rfl ?_
    refine WP.gf (pc := 14) hC dX6_figure_14 fl_X6_62 (by decide) rfl rfl ?_
    refine WP.icge (pc := 17) hC dX6_figure_17 35 (by decide) (fun h17 => ?_) (fun h17 => ?_)
    · have hvv : vvM F n = -9 := by
        unfold vvM
        rw [ea, if_neg]
        rintro ⟨q1, q2⟩
        first | exact h6 q1 | (rw [e12, e13] at h17; exact nI_ge q2 (by omega) h17)
      refine WP.bipush (pc := 35) hC dX6_figure_35 (-9) (by decide) ?_
      rw [← hvv]
      refine WP.isn (lv' := [_, _, _, _]) (pc := 37) hC dX6_figure_37 rfl (by decide) rfl ?_
      refine WP.iln (pc := 38) hC dX6_figure_38 rfl ?_
      refine WP.i2l (pc := 39) hC dX6_figure_39 ?_
      refine WP.iln (pc := 40) hC dX6_figure_40 rfl ?_
      refine WP.i2l (pc := 41) hC dX6_figure_41 ?_
      refine WP.iln (pc := 42) hC dX6_figure_42 rfl ?_
      refine WP.i2l (pc := 43) hC dX6_figure_43 ?_
      refine WP.callSI (pc := 44) hC dX6_figure_44 (k_X6_in _ F L wM _ _ _) ml_X6_58 rfl rfl (Nat.le_of_ble_eq_true rfl) ⟨by decide, by decide⟩ ?_
      rw [inL_w]
      refine WP.ifne (pc := 47) hC dX6_figure_47 76 (by decide) (fun h47 => ?_) (fun h47 => ?_)
      · have hq : lo ≤ vvM F n ∧ vvM F n ≤ hi := by
          rw [b2_n0, Bool.and_eq_true, decide_eq_true_eq, decide_eq_true_eq] at h47
          exact h47
        refine WP.aln (pc := 76) hC dX6_figure_76 rfl ?_
        refine WP.dup (pc := 77) hC dX6_figure_77 rfl ?_
        refine WP.gf (pc := 78) hC dX6_figure_78 fl_X6_69 (by decide) rfl rfl ?_
        refine WP.iconst (pc := 81) hC dX6_figure_81 1 (by decide) ?_
        refine WP.iadd (pc := 82) hC dX6_figure_82 ?_
        rw [show F 0 13 + 1 = nI (ix (F 0 13) + 1) by rw [ea, e13]; exact nIp1 a]
        refine WP.pf (pc := 83) hC dX6_figure_83 fp_X6_69 rfl rfl (by decide) rfl rfl (Nat.le_of_ble_eq_true rfl) ?_
        refine WP.iln (pc := 86) hC dX6_figure_86 rfl ?_
        refine WP.iret (pc := 87) hC rfl dX6_figure_87 ?_ ?_ ?_
        all_goals (first | rfl | (unfold figV; rw [if_pos hq]) | (unfold figF; rw [if_pos hq]) | (unfold figV; rw [if_neg hq]) | (unfold figF; rw [if_neg hq, if_pos h57, ea, e13]) | (unfold figF; rw [if_neg hq, if_neg h57]))
      · have hq : ¬ (lo ≤ vvM F n ∧ vvM F n ≤ hi) := by
          rw [b2_0, Bool.and_eq_false_iff, decide_eq_false_iff_not, decide_eq_false_iff_not] at h47
          rintro ⟨q1, q2⟩
          rcases h47 with z | z
          · exact z q1
          · exact z q2
        refine WP.aln (pc := 50) hC dX6_figure_50 rfl ?_
        refine WP.aln (pc := 51) hC dX6_figure_51 rfl ?_
        refine WP.gf (pc := 52) hC dX6_figure_52 fl_X6_66 (by decide) rfl rfl ?_
        refine WP.bipush (pc := 55) hC dX6_figure_55 (-9) (by decide) ?_
        refine WP.icne (pc := 57) hC dX6_figure_57 67 (by decide) (fun h57 => ?_) (fun h57 => ?_)
        · refine WP.aln (pc := 67) hC dX6_figure_67 rfl ?_
          refine WP.gf (pc := 68) hC dX6_figure_68 fl_X6_66 (by decide) rfl rfl ?_
          refine WP.pf (pc := 71) hC dX6_figure_71 fp_X6_66 rfl rfl (by decide) rfl rfl (Nat.le_of_ble_eq_true rfl) ?_
          refine WP.iln (pc := 74) hC dX6_figure_74 rfl ?_
          refine WP.iret (pc := 75) hC rfl dX6_figure_75 ?_ ?_ ?_
          all_goals (first | rfl | (unfold figV; rw [if_pos hq]) | (unfold figF; rw [if_pos hq]) | (unfold figV; rw [if_neg hq]) | (unfold figF; rw [if_neg hq, if_pos h57, ea, e13]) | (unfold figF; rw [if_neg hq, if_neg h57]))
        · refine WP.aln (pc := 60) hC dX6_figure_60 rfl ?_
          refine WP.gf (pc := 61) hC dX6_figure_61 fl_X6_69 (by decide) rfl rfl ?_
          refine WP.goto (pc := 64) hC dX6_figure_64 71 (by decide) ?_
          refine WP.pf (pc := 71) hC dX6_figure_71 fp_X6_66 rfl rfl (by decide) rfl rfl (Nat.le_of_ble_eq_true rfl) ?_
          refine WP.iln (pc := 74) hC dX6_figure_74 rfl ?_
          refine WP.iret (pc := 75) hC rfl dX6_figure_75 ?_ ?_ ?_
          all_goals (first | rfl | (unfold figV; rw [if_pos hq]) | (unfold figF; rw [if_pos hq]) | (unfold figV; rw [if_neg hq]) | (unfold figF; rw [if_neg hq, if_pos h57, ea, e13]) | (unfold figF; rw [if_neg hq, if_neg h57]))
    · have han : a < n := by
        rw [e12, e13] at h17
        exact (nI_ltI (by omega) (by omega)).mp (i_nle.mp h17)
      have hvv : vvM F n = F 8 a - 48 := by unfold vvM; rw [ea, if_pos ⟨h6, han⟩]
      refine WP.aln (pc := 20) hC dX6_figure_20 rfl ?_
      refine WP.gf (pc := 21) hC dX6_figure_21 fl_X6_31 (by decide) rfl rfl ?_
      refine WP.aln (pc := 24) hC dX6_figure_24 rfl ?_
      refine WP.gf (pc := 25) hC dX6_figure_25 fl_X6_69 (by decide) rfl rfl ?_
      refine WP.ial (pc := 28) hC dX6_figure_28 a e13 (by omega) (by decide) rfl (by decide) ?_
      refine WP.bipush (pc := 29) hC dX6_figure_29 48 (by decide) ?_
      refine WP.isub (pc := 31) hC dX6_figure_31 ?_
      refine WP.goto (pc := 32) hC dX6_figure_32 37 (by decide) ?_
      rw [← hvv]
      refine WP.isn (lv' := [_, _, _, _]) (pc := 37) hC dX6_figure_37 rfl (by decide) rfl ?_
      refine WP.iln (pc := 38) hC dX6_figure_38 rfl ?_
      refine WP.i2l (pc := 39) hC dX6_figure_39 ?_
      refine WP.iln (pc := 40) hC dX6_figure_40 rfl ?_
      refine WP.i2l (pc := 41) hC dX6_figure_41 ?_
      refine WP.iln (pc := 42) hC dX6_figure_42 rfl ?_
      refine WP.i2l (pc := 43) hC dX6_figure_43 ?_
      refine WP.callSI (pc := 44) hC dX6_figure_44 (k_X6_in _ F L wM _ _ _) ml_X6_58 rfl rfl (Nat.le_of_ble_eq_true rfl) ⟨by decide, by decide⟩ ?_
      rw [inL_w]
      refine WP.ifne (pc := 47) hC dX6_figure_47 76 (by decide) (fun h47 => ?_) (fun h47 => ?_)
      · have hq : lo ≤ vvM F n ∧ vvM F n ≤ hi := by
          rw [b2_n0, Bool.and_eq_true, decide_eq_true_eq, decide_eq_true_eq] at h47
          exact h47
        refine WP.aln (pc := 76) hC dX6_figure_76 rfl ?_
        refine WP.dup (pc := 77) hC dX6_figure_77 rfl ?_
        refine WP.gf (pc := 78) hC dX6_figure_78 fl_X6_69 (by decide) rfl rfl ?_
        refine WP.iconst (pc := 81) hC dX6_figure_81 1 (by decide) ?_
        refine WP.iadd (pc := 82) hC dX6_figure_82 ?_
        rw [show F 0 13 + 1 = nI (ix (F 0 13) + 1) by rw [ea, e13]; exact nIp1 a]
        refine WP.pf (pc := 83) hC dX6_figure_83 fp_X6_69 rfl rfl (by decide) rfl rfl (Nat.le_of_ble_eq_true rfl) ?_
        refine WP.iln (pc := 86) hC dX6_figure_86 rfl ?_
        refine WP.iret (pc := 87) hC rfl dX6_figure_87 ?_ ?_ ?_
        all_goals (first | rfl | (unfold figV; rw [if_pos hq]) | (unfold figF; rw [if_pos hq]) | (unfold figV; rw [if_neg hq]) | (unfold figF; rw [if_neg hq, if_pos h57, ea, e13]) | (unfold figF; rw [if_neg hq, if_neg h57]))
      · have hq : ¬ (lo ≤ vvM F n ∧ vvM F n ≤ hi) := by
          rw [b2_0, Bool.and_eq_false_iff, decide_eq_false_iff_not, decide_eq_false_iff_not] at h47
          rintro ⟨q1, q2⟩
          rcases h47 with z | z
          · exact z q1
          · exact z q2
        refine WP.aln (pc := 50) hC dX6_figure_50 rfl ?_
        refine WP.aln (pc := 51) hC dX6_figure_51 rfl ?_
        refine WP.gf (pc := 52) hC dX6_figure_52 fl_X6_66 (by decide) rfl rfl ?_
        refine WP.bipush (pc := 55) hC dX6_figure_55 (-9) (by decide) ?_
        refine WP.icne (pc := 57) hC dX6_figure_57 67 (by decide) (fun h57 => ?_) (fun h57 => ?_)
        · refine WP.aln (pc := 67) hC dX6_figure_67 rfl ?_
          refine WP.gf (pc := 68) hC dX6_figure_68 fl_X6_66 (by decide) rfl rfl ?_
          refine WP.pf (pc := 71) hC dX6_figure_71 fp_X6_66 rfl rfl (by decide) rfl rfl (Nat.le_of_ble_eq_true rfl) ?_
          refine WP.iln (pc := 74) hC dX6_figure_74 rfl ?_
          refine WP.iret (pc := 75) hC rfl dX6_figure_75 ?_ ?_ ?_
          all_goals (first | rfl | (unfold figV; rw [if_pos hq]) | (unfold figF; rw [if_pos hq]) | (unfold figV; rw [if_neg hq]) | (unfold figF; rw [if_neg hq, if_pos h57, ea, e13]) | (unfold figF; rw [if_neg hq, if_neg h57]))
        · refine WP.aln (pc := 60) hC dX6_figure_60 rfl ?_
          refine WP.gf (pc := 61) hC dX6_figure_61 fl_X6_69 (by decide) rfl rfl ?_
          refine WP.goto (pc := 64) hC dX6_figure_64 71 (by decide) ?_
          refine WP.pf (pc := 71) hC dX6_figure_71 fp_X6_66 rfl rfl (by decide) rfl rfl (Nat.le_of_ble_eq_true rfl) ?_
          refine WP.iln (pc := 74) hC dX6_figure_74 rfl ?_
          refine WP.iret (pc := 75) hC rfl dX6_figure_75 ?_ ?_ ?_
          all_goals (first | rfl | (unfold figV; rw [if_pos hq]) | (unfold figF; rw [if_pos hq]) | (unfold figV; rw [if_neg hq]) | (unfold figF; rw [if_neg hq, if_pos h57, ea, e13]) | (unfold figF; rw [if_neg hq, if_neg h57]))
