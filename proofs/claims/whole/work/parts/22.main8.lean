/-! ===== NewRays: flicker ===== -/
def inR (f : Nat → Int32) (k : Nat) : Nat → Int32 := fun j => if j < k then (if j = 0 then 1 else 0) else f j
theorem inR_up {f : Nat → Int32} {k : Nat} : upd (inR f k) k (if k = 0 then 1 else 0) = inR f (k + 1) := by
  funext j
  unfold upd inR
  by_cases e : j = k
  · rw [if_pos e, e, if_pos (Nat.lt_succ_self k)]
  · have h1 : (j < k + 1) = (j < k) := propext ⟨fun _ => by omega, fun _ => by omega⟩
    simp only [e, if_false, h1]
theorem inR_0 (f : Nat → Int32) : inR f 0 = f := by funext j; unfold inR; rw [if_neg (by omega)]
theorem inR_6 (f : Nat → Int32) (t : Nat → Nat) : inR f 6 = wyR f (dpN t 0) 0 := by
  funext j
  unfold inR wyR
  by_cases q : j < 6
  · have h1 : dpN t 0 j = if j = 0 then 1 else 0 := rfl
    simp only [q, if_true, Nat.zero_le, and_self, h1]
    split <;> rfl
  · rw [if_neg q, if_neg (by omega)]
theorem wyR_wyR (f : Nat → Int32) (v w : Nat → Nat) : wyR (wyR f v 0) w 0 = wyR f w 0 := by
  funext j
  unfold wyR
  by_cases q : j < 6
  · rw [if_pos ⟨Nat.zero_le _, q⟩, if_pos ⟨Nat.zero_le _, q⟩]
  · rw [if_neg (by omega), if_neg (by omega), if_neg (by omega)]
theorem upF_upF (F : FF) (i : Nat) (f g : Nat → Int32) : upF (upF F i f) i g = upF F i g := by
  funext a
  unfold upF
  split <;> rfl
def suM (w : Nat → Nat) (m : Nat) : Nat → Nat
  | 0 => 0
  | k + 1 => suM w m k + (if m ≤ k then w k else 0)
theorem suM_0 (w : Nat → Nat) (m : Nat) : ∀ k, k ≤ m → suM w m k = 0
  | 0, _ => rfl
  | k + 1, h => by rw [suM, suM_0 w m k (by omega), if_neg (by omega)]
def tot (w : Nat → Nat) : Nat := w 0 + w 1 + w 2 + w 3 + w 4 + w 5
theorem suM_le (w : Nat → Nat) (m : Nat) : suM w m 6 ≤ tot w := by
  simp only [suM, tot]
  have h : ∀ k, (if m ≤ k then w k else 0) ≤ w k := fun k => by split <;> omega
  have h0 := h 0
  have h1 := h 1
  have h2 := h 2
  have h3 := h 3
  have h4 := h 4
  have h5 := h 5
  omega
theorem tot_st {w : Nat → Nat} {t : Nat} (ht : t ≤ 10) : tot (stW w t) ≤ 10 * tot w := by
  have e : ∀ a, a * (10 - t) + a * t = 10 * a := fun a => by rw [← Nat.mul_add, show 10 - t + t = 10 by omega, Nat.mul_comm]
  have h0 := e (w 0)
  have h1 := e (w 1)
  have h2 := e (w 2)
  have h3 := e (w 3)
  have h4 := e (w 4)
  have h5 := e (w 5)
  simp only [tot, stW]
  simp
  omega
theorem tot_dp {t : Nat → Nat} (ht : ∀ r, t r ≤ 10) : ∀ r, tot (dpN t r) ≤ 10 ^ r
  | 0 => by simp [tot, dpN]
  | r + 1 => by
    have h1 := tot_dp ht r
    have h2 : tot (dpN t (r + 1)) ≤ 10 * tot (dpN t r) := tot_st (ht r)
    rw [Nat.pow_succ]
    omega
theorem tnN_le {F : FF} {j x i : Nat} (hx : x ≤ 10) : tnN F j x i ≤ 10 := by unfold tnN; split <;> (try split) <;> omega
theorem tnN_w {F : FF} {f : Nat → Int32} {j x i : Nat} : tnN (upF F 18 f) j x i = tnN F j x i := rfl
def flOk (m x : Int32) : Bool := (decide (0 ≤ m) && decide (m ≤ 5)) && (decide (0 ≤ x) && decide (x ≤ 10))
def flS (F : FF) (nr : Nat) (s m x : Int32) : Nat := suM (dpN (tnN F (ix s) (ix x)) nr) (ix m) 6
def flR (F : FF) (nr ns : Nat) (s m x : Int32) (up : Bool) : Int32 := if hasB s ns = true then (if flOk m x = true then frR (nI (flS F nr s m x)) (flS F nr s m x) (10 ^ nr) up else -2) else -1
def flF (F : FF) (nr ns : Nat) (s m x : Int32) : FF := if (hasB s ns && flOk m x) = true then upF F 18 (wyR (F 18) (dpN (tnN F (ix s) (ix x)) nr) 0) else F
theorem pow10 : ∀ n, n ≤ 5 → 0 < 10 ^ n ∧ 10 ^ n ≤ 100000 := by decide
theorem ix0 {n : Int32} {K : Nat} (h1 : 0 ≤ n) (h2 : n ≤ nI K) (hK : K < 100) : ∃ m, m ≤ K ∧ n = nI m := by
  obtain ⟨m, hm, rfl⟩ := nI_of (x := n) (i_nlt.mpr h1)
  exact ⟨m, (nI_leI hm (by omega)).mp h2, rfl⟩

set_option maxHeartbeats 4000000 in
theorem k_X5_flicker (l : Launch) (F : FF) (L : Int64) (nr ns : Nat) (s m x : Int32) (up : Bool) (hN : NR F nr ns) (hZ : BZ F) : CI l yX5_flicker cX5_flicker 8 (some .int) (rmx 5 117) wN [.ref 0, .int s, .int m, .int x, .int (b2 up)] F L (flR F nr ns s m x up) (flF F nr ns s m x) L := by
  refine mkI [some (.ref 0), some (.int s), some (.int m), some (.int x), some (.int (b2 up)), none, none, none] 3 (by decide) rfl (Nat.le_of_ble_eq_true rfl) ?_
  intro x0 d hx hC
  subst hx
  have hC : Cx x0 cX5_flicker 8 RX5 (some .int) (rmx 5 117) wN d := hC
  refine WP.aln (pc := 0) hC dX5_flicker_0 rfl ?_
  refine WP.gf (pc := 1) hC dX5_flicker_1 fl_X5_19 (by decide) rfl rfl ?_
  refine WP.iln (pc := 4) hC dX5_flicker_4 rfl ?_
  refine WP.callVI (pc := 5) hC dX5_flicker_5 (k_X3_hasSample _ F L nr ns s hN) ml_X5_104 rfl rfl (by decide) rfl (Nat.le_of_ble_eq_true rfl) ⟨by decide, by decide⟩ ?_
  refine WP.ifne (pc := 8) hC dX5_flicker_8 13 (by decide) (fun h8 => ?_) (fun h8 => ?_)
  · rw [b2_n0] at h8
    obtain ⟨j, hj, rfl⟩ := hasB_of (by have := hN.2.2.2; omega) h8
    refine WP.iln (pc := 13) hC dX5_flicker_13 rfl ?_
    refine WP.iflt (pc := 14) hC dX5_flicker_14 32 (by decide) (fun h14 => ?_) (fun h14 => ?_)
    · refine WP.bipush (pc := 32) hC dX5_flicker_32 (-2) (by decide) ?_
      refine WP.iret (pc := 34) hC rfl dX5_flicker_34 ?_ ?_ ?_
      all_goals (first | rfl | (unfold flR; rw [if_pos h8]; refine (if_neg ?_).symm; unfold flOk; rw [Bool.and_eq_true, Bool.and_eq_true, Bool.and_eq_true, decide_eq_true_eq, decide_eq_true_eq, decide_eq_true_eq, decide_eq_true_eq]; rintro ⟨⟨q1, q2⟩, q3, q4⟩; first | exact i_nlt.mpr q1 h14 | exact i_nlt.mpr q2 h19 | exact i_nlt.mpr q3 h23 | exact h29 q4) | (unfold flF; rw [h8, Bool.true_and]; refine (if_neg ?_).symm; unfold flOk; rw [Bool.and_eq_true, Bool.and_eq_true, Bool.and_eq_true, decide_eq_true_eq, decide_eq_true_eq, decide_eq_true_eq, decide_eq_true_eq]; rintro ⟨⟨q1, q2⟩, q3, q4⟩; first | exact i_nlt.mpr q1 h14 | exact i_nlt.mpr q2 h19 | exact i_nlt.mpr q3 h23 | exact h29 q4))
    · refine WP.iln (pc := 17) hC dX5_flicker_17 rfl ?_
      refine WP.iconst (pc := 18) hC dX5_flicker_18 5 (by decide) ?_
      refine WP.icgt (pc := 19) hC dX5_flicker_19 32 (by decide) (fun h19 => ?_) (fun h19 => ?_)
      · refine WP.bipush (pc := 32) hC dX5_flicker_32 (-2) (by decide) ?_
        refine WP.iret (pc := 34) hC rfl dX5_flicker_34 ?_ ?_ ?_
        all_goals (first | rfl | (unfold flR; rw [if_pos h8]; refine (if_neg ?_).symm; unfold flOk; rw [Bool.and_eq_true, Bool.and_eq_true, Bool.and_eq_true, decide_eq_true_eq, decide_eq_true_eq, decide_eq_true_eq, decide_eq_true_eq]; rintro ⟨⟨q1, q2⟩, q3, q4⟩; first | exact i_nlt.mpr q1 h14 | exact i_nlt.mpr q2 h19 | exact i_nlt.mpr q3 h23 | exact h29 q4) | (unfold flF; rw [h8, Bool.true_and]; refine (if_neg ?_).symm; unfold flOk; rw [Bool.and_eq_true, Bool.and_eq_true, Bool.and_eq_true, decide_eq_true_eq, decide_eq_true_eq, decide_eq_true_eq, decide_eq_true_eq]; rintro ⟨⟨q1, q2⟩, q3, q4⟩; first | exact i_nlt.mpr q1 h14 | exact i_nlt.mpr q2 h19 | exact i_nlt.mpr q3 h23 | exact h29 q4))
      · refine WP.iln (pc := 22) hC dX5_flicker_22 rfl ?_
        refine WP.iflt (pc := 23) hC dX5_flicker_23 32 (by decide) (fun h23 => ?_) (fun h23 => ?_)
        · refine WP.bipush (pc := 32) hC dX5_flicker_32 (-2) (by decide) ?_
          refine WP.iret (pc := 34) hC rfl dX5_flicker_34 ?_ ?_ ?_
          all_goals (first | rfl | (unfold flR; rw [if_pos h8]; refine (if_neg ?_).symm; unfold flOk; rw [Bool.and_eq_true, Bool.and_eq_true, Bool.and_eq_true, decide_eq_true_eq, decide_eq_true_eq, decide_eq_true_eq, decide_eq_true_eq]; rintro ⟨⟨q1, q2⟩, q3, q4⟩; first | exact i_nlt.mpr q1 h14 | exact i_nlt.mpr q2 h19 | exact i_nlt.mpr q3 h23 | exact h29 q4) | (unfold flF; rw [h8, Bool.true_and]; refine (if_neg ?_).symm; unfold flOk; rw [Bool.and_eq_true, Bool.and_eq_true, Bool.and_eq_true, decide_eq_true_eq, decide_eq_true_eq, decide_eq_true_eq, decide_eq_true_eq]; rintro ⟨⟨q1, q2⟩, q3, q4⟩; first | exact i_nlt.mpr q1 h14 | exact i_nlt.mpr q2 h19 | exact i_nlt.mpr q3 h23 | exact h29 q4))
        · refine WP.iln (pc := 26) hC dX5_flicker_26 rfl ?_
          refine WP.bipush (pc := 27) hC dX5_flicker_27 10 (by decide) ?_
          refine WP.icle (pc := 29) hC dX5_flicker_29 35 (by decide) (fun h29 => ?_) (fun h29 => ?_)
          · obtain ⟨m, hm5, rfl⟩ := ix0 (K := 5) (i_nlt.mp h14) (i_nlt.mp h19) (by decide)
            obtain ⟨x, hx10, rfl⟩ := ix0 (K := 10) (i_nlt.mp h23) h29 (by decide)
            have hr5 := hN.2.2.1
            have hs4 := hN.2.2.2
            have hp10 := pow10 nr hr5
            have ej : ix (nI j) = j := ix_nI (by omega)
            have em : ix (nI m) = m := ix_nI (by omega)
            have ex : ix (nI x) = x := ix_nI (by omega)
            have hok : flOk (nI m) (nI x) = true := by unfold flOk; simp [i_nlt.mp h14, i_nlt.mp h19, i_nlt.mp h23, h29]
            have hS := suM_le (dpN (tnN F j x) nr) m
            have hT := tot_dp (t := tnN F j x) (fun r => tnN_le hx10) nr
            rw [show flR F nr ns (nI j) (nI m) (nI x) up = frR (nI (suM (dpN (tnN F j x) nr) m 6)) (suM (dpN (tnN F j x) nr) m 6) (10 ^ nr) up by unfold flR flS; rw [if_pos h8, if_pos hok, ej, em, ex], show flF F nr ns (nI j) (nI m) (nI x) = (upF F 18 (wyR (F 18) (dpN (tnN F j x) nr) 0)) by unfold flF; rw [if_pos (by rw [h8, hok]; rfl), ej, ex]]
            have loop3 : ∀ k, k ≤ 6 → m ≤ k → WP x0 8 wN d (QI x0 wN d (frR (nI (suM (dpN (tnN F j x) nr) m 6)) (suM (dpN (tnN F j x) nr) m 6) (10 ^ nr) up) (upF F 18 (wyR (F 18) (dpN (tnN F j x) nr) 0)) L) 120 [some (.ref 0), some (.int (nI j)), some (.int (nI m)), some (.int (nI x)), some (.int (b2 up)), some (.int (nI (10 ^ nr))), some (.int (nI (suM (dpN (tnN F j x) nr) m k))), some (.int (nI k))] [] (upF F 18 (wyR (F 18) (dpN (tnN F j x) nr) 0)) L := by
              refine loop_c (n := 6) (P := fun k => m ≤ k → WP x0 8 wN d (QI x0 wN d (frR (nI (suM (dpN (tnN F j x) nr) m 6)) (suM (dpN (tnN F j x) nr) m 6) (10 ^ nr) up) (upF F 18 (wyR (F 18) (dpN (tnN F j x) nr) 0)) L) 120 [some (.ref 0), some (.int (nI j)), some (.int (nI m)), some (.int (nI x)), some (.int (b2 up)), some (.int (nI (10 ^ nr))), some (.int (nI (suM (dpN (tnN F j x) nr) m k))), some (.int (nI k))] [] (upF F 18 (wyR (F 18) (dpN (tnN F j x) nr) 0)) L) ?_
              intro k hk0 ih hmk
              refine WP.il (pc := 120) hC dX5_flicker_120 rfl ?_
              refine WP.aln (pc := 122) hC dX5_flicker_122 rfl ?_
              refine WP.gf (pc := 123) hC dX5_flicker_123 fl_X5_59 (by decide) rfl rfl ?_
              refine WP.alen (pc := 126) hC dX5_flicker_126 (by decide) rfl ?_
              refine WP.icge (pc := 127) hC dX5_flicker_127 148 (by decide) (fun h127 => ?_) (fun h127 => ?_)
              · have hk9 : k = 6 := by
                  have := (nI_leI (a := 6) (by decide) (by omega)).mp h127
                  omega
                subst hk9
                refine WP.il (pc := 148) hC dX5_flicker_148 rfl ?_
                refine WP.il (pc := 150) hC dX5_flicker_150 rfl ?_
                refine WP.il (pc := 152) hC dX5_flicker_152 rfl ?_
                refine WP.callSI (pc := 154) hC dX5_flicker_154 (k_X5_fraction _ (upF F 18 (wyR (F 18) (dpN (tnN F j x) nr) 0)) L wN _ (suM (dpN (tnN F j x) nr) m 6) (10 ^ nr) up (by unfold abZ; rw [if_pos (nI_pos' (by omega))]) (by omega) (by omega) hp10.1) ml_X5_222 rfl rfl (Nat.le_of_ble_eq_true rfl) ⟨by decide, by decide⟩ ?_
                refine WP.iret (pc := 157) hC rfl dX5_flicker_157 ?_ ?_ ?_
                all_goals (rfl)
              · have hk : k < 6 := (nI_ltI (b := 6) (by omega) (by decide)).mp (i_nle.mp h127)
                have hv := ih hk
                refine WP.il (pc := 130) hC dX5_flicker_130 rfl ?_
                refine WP.aln (pc := 132) hC dX5_flicker_132 rfl ?_
                refine WP.gf (pc := 133) hC dX5_flicker_133 fl_X5_59 (by decide) rfl rfl ?_
                refine WP.il (pc := 136) hC dX5_flicker_136 rfl ?_
                refine WP.ial (pc := 138) hC dX5_flicker_138 k rfl (by omega) (by decide) rfl (by decide) ?_
                rw [show (upF F 18 (wyR (F 18) (dpN (tnN F j x) nr) 0)) 18 k = nI (dpN (tnN F j x) nr k) from by rw [show (upF F 18 (wyR (F 18) (dpN (tnN F j x) nr) 0)) 18 = wyR (F 18) (dpN (tnN F j x) nr) 0 from by simp [upF]]; exact wyR_1 (Nat.zero_le _) hk]
                refine WP.iadd (pc := 139) hC dX5_flicker_139 ?_
                rw [nI_add]
                refine WP.is (lv' := [_, _, _, _, _, _, _, _]) (pc := 140) hC dX5_flicker_140 rfl (by decide) rfl ?_
                refine WP.iinc (lv' := [_, _, _, _, _, _, _, _]) (pc := 142) hC dX5_flicker_142 rfl (_ + 1) rfl rfl (by decide) rfl ?_
                refine WP.goto (pc := 145) hC dX5_flicker_145 120 (by decide) ?_
                rw [nIp1]
                rw [show suM (dpN (tnN F j x) nr) m (k + 1) = suM (dpN (tnN F j x) nr) m k + dpN (tnN F j x) nr k by rw [suM, if_pos hmk]] at hv
                exact hv (by omega)
            have loop2 : ∀ r, r ≤ nr → ∀ a7 : Option Value, WP x0 8 wN d (QI x0 wN d (frR (nI (suM (dpN (tnN F j x) nr) m 6)) (suM (dpN (tnN F j x) nr) m 6) (10 ^ nr) up) (upF F 18 (wyR (F 18) (dpN (tnN F j x) nr) 0)) L) 77 [some (.ref 0), some (.int (nI j)), some (.int (nI m)), some (.int (nI x)), some (.int (b2 up)), some (.int (nI (10 ^ r))), some (.int (nI r)), a7] [] (upF F 18 (wyR (F 18) (dpN (tnN F j x) r) 0)) L := by
              refine loop_c (n := nr) (P := fun r => ∀ a7 : Option Value, WP x0 8 wN d (QI x0 wN d (frR (nI (suM (dpN (tnN F j x) nr) m 6)) (suM (dpN (tnN F j x) nr) m 6) (10 ^ nr) up) (upF F 18 (wyR (F 18) (dpN (tnN F j x) nr) 0)) L) 77 [some (.ref 0), some (.int (nI j)), some (.int (nI m)), some (.int (nI x)), some (.int (b2 up)), some (.int (nI (10 ^ r))), some (.int (nI r)), a7] [] (upF F 18 (wyR (F 18) (dpN (tnN F j x) r) 0)) L) ?_
              intro r hr0 ih a7
              refine WP.il (pc := 77) hC dX5_flicker_77 rfl ?_
              refine WP.aln (pc := 79) hC dX5_flicker_79 rfl ?_
              refine WP.gf (pc := 80) hC dX5_flicker_80 fl_X5_19 (by decide) rfl rfl ?_
              refine WP.gf (pc := 83) hC dX5_flicker_83 fl_X5_82 (by decide) rfl rfl ?_
              refine WP.icge (pc := 86) hC dX5_flicker_86 114 (by decide) (fun h86 => ?_) (fun h86 => ?_)
              · have hr9 : r = nr := by
                  have h86 := h86
                  rw [show (upF F 18 (wyR (F 18) (dpN (tnN F j x) r) 0)) 3 4 = nI nr from hN.1] at h86
                  have := (nI_leI (by omega) (by omega)).mp h86
                  omega
                subst hr9
                refine WP.iconst (pc := 114) hC dX5_flicker_114 0 (by decide) ?_
                refine WP.is (lv' := [_, _, _, _, _, _, _, _]) (pc := 115) hC dX5_flicker_115 rfl (by decide) rfl ?_
                refine WP.iln (pc := 117) hC dX5_flicker_117 rfl ?_
                refine WP.is (lv' := [_, _, _, _, _, _, _, _]) (pc := 118) hC dX5_flicker_118 rfl (by decide) rfl ?_
                have hz := loop3 m (by omega) (Nat.le_refl m)
                rw [suM_0 _ _ m (Nat.le_refl m)] at hz
                exact hz
              · have hr : r < nr := by
                  have h86 := h86
                  rw [show (upF F 18 (wyR (F 18) (dpN (tnN F j x) r) 0)) 3 4 = nI nr from hN.1] at h86
                  exact (nI_ltI (by omega) (by omega)).mp (i_nle.mp h86)
                have hv := ih hr
                refine WP.aln (pc := 89) hC dX5_flicker_89 rfl ?_
                refine WP.aln (pc := 90) hC dX5_flicker_90 rfl ?_
                refine WP.il (pc := 91) hC dX5_flicker_91 rfl ?_
                refine WP.iln (pc := 93) hC dX5_flicker_93 rfl ?_
                refine WP.iln (pc := 94) hC dX5_flicker_94 rfl ?_
                refine WP.callVI (pc := 95) hC dX5_flicker_95 (k_X5_tenthsOfYes _ (upF F 18 (wyR (F 18) (dpN (tnN F j x) r) 0)) L nr ns r j x hN (fun b h1 h2 => by rw [upF_row (by omega)]; exact hZ b h1 h2) hr hj) ml_X5_229 rfl rfl (by decide) rfl (Nat.le_of_ble_eq_true rfl) ⟨by decide, by decide⟩ ?_
                rw [tnN_w]
                refine WP.callVV (pc := 98) hC dX5_flicker_98 (k_X5_addToWays _ (upF F 18 (wyR (F 18) (dpN (tnN F j x) r) 0)) L (tnN F j x r) (dpN (tnN F j x) r) (tnN_le hx10) (fun k hk => by rw [show (upF F 18 (wyR (F 18) (dpN (tnN F j x) r) 0)) 18 = wyR (F 18) (dpN (tnN F j x) r) 0 from by simp [upF]]; exact wyR_1 (Nat.zero_le _) hk)) ml_X5_233 rfl rfl (by decide) rfl (Nat.le_of_ble_eq_true rfl) ⟨by decide, by decide⟩ ?_
                rw [show (upF F 18 (wyR (F 18) (dpN (tnN F j x) r) 0)) 18 = wyR (F 18) (dpN (tnN F j x) r) 0 from by simp [upF], upF_upF, wyR_wyR, show stW (dpN (tnN F j x) r) (tnN F j x r) = dpN (tnN F j x) (r + 1) from rfl]
                refine WP.il (pc := 101) hC dX5_flicker_101 rfl ?_
                refine WP.bipush (pc := 103) hC dX5_flicker_103 10 (by decide) ?_
                refine WP.imul (pc := 105) hC dX5_flicker_105 ?_
                rw [show nI (10 ^ r) * 10 = nI (10 ^ (r + 1)) from pk_mul _ 10]
                refine WP.is (lv' := [_, _, _, _, _, _, _, _]) (pc := 106) hC dX5_flicker_106 rfl (by decide) rfl ?_
                refine WP.iinc (lv' := [_, _, _, _, _, _, _, _]) (pc := 108) hC dX5_flicker_108 rfl (_ + 1) rfl rfl (by decide) rfl ?_
                refine WP.goto (pc := 111) hC dX5_flicker_111 77 (by decide) ?_
                rw [nIp1]
                exact hv _
            have loop1 : ∀ k, k ≤ 6 → ∀ a6 a7 : Option Value, WP x0 8 wN d (QI x0 wN d (frR (nI (suM (dpN (tnN F j x) nr) m 6)) (suM (dpN (tnN F j x) nr) m 6) (10 ^ nr) up) (upF F 18 (wyR (F 18) (dpN (tnN F j x) nr) 0)) L) 38 [some (.ref 0), some (.int (nI j)), some (.int (nI m)), some (.int (nI x)), some (.int (b2 up)), some (.int (nI k)), a6, a7] [] (upF F 18 (inR (F 18) k)) L := by
              refine loop_c (n := 6) (P := fun k => ∀ a6 a7 : Option Value, WP x0 8 wN d (QI x0 wN d (frR (nI (suM (dpN (tnN F j x) nr) m 6)) (suM (dpN (tnN F j x) nr) m 6) (10 ^ nr) up) (upF F 18 (wyR (F 18) (dpN (tnN F j x) nr) 0)) L) 38 [some (.ref 0), some (.int (nI j)), some (.int (nI m)), some (.int (nI x)), some (.int (b2 up)), some (.int (nI k)), a6, a7] [] (upF F 18 (inR (F 18) k)) L) ?_
              intro k hk0 ih a6 a7
              refine WP.il (pc := 38) hC dX5_flicker_38 rfl ?_
              refine WP.aln (pc := 40) hC dX5_flicker_40 rfl ?_
              refine WP.gf (pc := 41) hC dX5_flicker_41 fl_X5_59 (by decide) rfl rfl ?_
              refine WP.alen (pc := 44) hC dX5_flicker_44 (by decide) rfl ?_
              refine WP.icge (pc := 45) hC dX5_flicker_45 71 (by decide) (fun h45 => ?_) (fun h45 => ?_)
              · have hk9 : k = 6 := by
                  have := (nI_leI (a := 6) (by decide) (by omega)).mp h45
                  omega
                subst hk9
                rw [inR_6 (F 18) (tnN F j x)]
                refine WP.iconst (pc := 71) hC dX5_flicker_71 1 (by decide) ?_
                refine WP.is (lv' := [_, _, _, _, _, _, _, _]) (pc := 72) hC dX5_flicker_72 rfl (by decide) rfl ?_
                refine WP.iconst (pc := 74) hC dX5_flicker_74 0 (by decide) ?_
                refine WP.is (lv' := [_, _, _, _, _, _, _, _]) (pc := 75) hC dX5_flicker_75 rfl (by decide) rfl ?_
                exact loop2 0 (Nat.zero_le _) _
              · have hk : k < 6 := (nI_ltI (b := 6) (by omega) (by decide)).mp (i_nle.mp h45)
                have hv := ih hk
                refine WP.aln (pc := 48) hC dX5_flicker_48 rfl ?_
                refine WP.gf (pc := 49) hC dX5_flicker_49 fl_X5_59 (by decide) rfl rfl ?_
                refine WP.il (pc := 52) hC dX5_flicker_52 rfl ?_
                refine WP.il (pc := 54) hC dX5_flicker_54 rfl ?_
                refine WP.ifne (pc := 56) hC dX5_flicker_56 63 (by decide) (fun h56 => ?_) (fun h56 => ?_)
                · refine WP.iconst (pc := 63) hC dX5_flicker_63 0 (by decide) ?_
                  refine WP.ias (pc := 64) hC dX5_flicker_64 k rfl (by omega) (by decide) rfl rfl (by decide) ?_
                  first | rw [show (0 : Int32) = (if k = 0 then 1 else 0) by rw [if_neg (fun z => h56 (by rw [z]; rfl))]] | rw [show (1 : Int32) = (if k = 0 then 1 else 0) by rw [if_pos ((nI_eq (b := 0) (by omega) (by decide)).mp h56)]]
                  rw [upF_up2, inR_up]
                  refine WP.iinc (lv' := [_, _, _, _, _, _, _, _]) (pc := 65) hC dX5_flicker_65 rfl (_ + 1) rfl rfl (by decide) rfl ?_
                  refine WP.goto (pc := 68) hC dX5_flicker_68 38 (by decide) ?_
                  rw [nIp1]
                  exact hv _ _
                · refine WP.iconst (pc := 59) hC dX5_flicker_59 1 (by decide) ?_
                  refine WP.goto (pc := 60) hC dX5_flicker_60 64 (by decide) ?_
                  refine WP.ias (pc := 64) hC dX5_flicker_64 k rfl (by omega) (by decide) rfl rfl (by decide) ?_
                  first | rw [show (0 : Int32) = (if k = 0 then 1 else 0) by rw [if_neg (fun z => h56 (by rw [z]; rfl))]] | rw [show (1 : Int32) = (if k = 0 then 1 else 0) by rw [if_pos ((nI_eq (b := 0) (by omega) (by decide)).mp h56)]]
                  rw [upF_up2, inR_up]
                  refine WP.iinc (lv' := [_, _, _, _, _, _, _, _]) (pc := 65) hC dX5_flicker_65 rfl (_ + 1) rfl rfl (by decide) rfl ?_
                  refine WP.goto (pc := 68) hC dX5_flicker_68 38 (by decide) ?_
                  rw [nIp1]
                  exact hv _ _
            refine WP.iconst (pc := 35) hC dX5_flicker_35 0 (by decide) ?_
            refine WP.is (lv' := [_, _, _, _, _, _, _, _]) (pc := 36) hC dX5_flicker_36 rfl (by decide) rfl ?_
            have hz := loop1 0 (Nat.zero_le _) none none
            rw [inR_0, upF_self] at hz
            exact hz
          · refine WP.bipush (pc := 32) hC dX5_flicker_32 (-2) (by decide) ?_
            refine WP.iret (pc := 34) hC rfl dX5_flicker_34 ?_ ?_ ?_
            all_goals (first | rfl | (unfold flR; rw [if_pos h8]; refine (if_neg ?_).symm; unfold flOk; rw [Bool.and_eq_true, Bool.and_eq_true, Bool.and_eq_true, decide_eq_true_eq, decide_eq_true_eq, decide_eq_true_eq, decide_eq_true_eq]; rintro ⟨⟨q1, q2⟩, q3, q4⟩; first | exact i_nlt.mpr q1 h14 | exact i_nlt.mpr q2 h19 | exact i_nlt.mpr q3 h23 | exact h29 q4) | (unfold flF; rw [h8, Bool.true_and]; refine (if_neg ?_).symm; unfold flOk; rw [Bool.and_eq_true, Bool.and_eq_true, Bool.and_eq_true, decide_eq_true_eq, decide_eq_true_eq, decide_eq_true_eq, decide_eq_true_eq]; rintro ⟨⟨q1, q2⟩, q3, q4⟩; first | exact i_nlt.mpr q1 h14 | exact i_nlt.mpr q2 h19 | exact i_nlt.mpr q3 h23 | exact h29 q4))
  · rw [b2_0] at h8
    refine WP.iconst (pc := 11) hC dX5_flicker_11 (-1) (by decide) ?_
    refine WP.iret (pc := 12) hC rfl dX5_flicker_12 ?_ ?_ ?_
    all_goals (first | rfl | (unfold flR; rw [if_neg (by rw [h8]; decide)]) | (unfold flF; rw [if_neg (by rw [h8, Bool.false_and]; decide)]))
