/-! ===== NewRaysModel: gone, slots, counts, winters ===== -/
def gnM (G : FF) (i m w fr k : Nat) : Bool := saysB (G 3 i) (G 2 i) (seesM (G 3 i) (G 1 i) (lits (decide (k < fr)) (G 4 (fig w (m - 1 - k) - 1))) (nI k) true)
def igM (G : FF) (i m w fr : Nat) (said : Int32) (k : Nat) : Bool := gnM G i m w fr k == hasT said (nI k)
def gnMR (G : FF) (nr ns : Nat) (r n row said : Int32) : Int32 := if hasB r nr = true then (if gnOk n row said = true then (if allN (fun k => smOk (ix row) ns (ix n - 1 - k)) (ix n) = true then nI (bits (fun fr => allN (igM G (ix r) (ix n) (ix row) fr said) (ix n)) (ix n + 1)) else -3) else -2) else -1
theorem in01_has (s : Int32) : inL s.toInt64 0 1 = hasB s 2 := by
  have h := in0p (r := s) (K := 2) (by decide) (by decide)
  rw [show (nI 2 - 1).toInt64 = 1 by decide] at h
  exact h
def kpMR (G : FF) (s : Int32) : Int32 := if hasB s 2 = true then onI (G 5 5 ||| G 5 6) 20 else -1
def kpMF (G : FF) (s : Int32) : FF := if hasB s 2 = true then upF (up2 G 14 (ix s) 1) 15 (ovl (G 15) (9 * ix s) (G 5) 9) else G
def agMR (G : FF) (s : Int32) : Int32 := if hasB s 2 = true then (if G 14 (ix s) = 0 then -3 else onI (G 15 (9 * ix s + 5) ||| G 15 (9 * ix s + 6)) 20) else -1
def agMF (G : FF) (s : Int32) : FF := if hasB s 2 = true then (if G 14 (ix s) = 0 then G else up2 (upF G 5 (ovl (G 5) 0 (fun k => G 15 (9 * ix s + k)) 9)) 0 15 0) else G
theorem cnt_t {f : Nat → Bool} {n : Nat} (h : f n = true) : cntN f (n + 1) = cntN f n + 1 := by rw [cntN, if_pos h]
theorem cnt_f {f : Nat → Bool} {n : Nat} (h : f n = false) : cntN f (n + 1) = cntN f n := by rw [cntN, h]; simp
def roB (G : FF) (v k : Nat) : Bool := hasT (if 0 < G 4 (k % 4) then G 5 (9 * v + 5) else G 5 (9 * v + 6)) (nI k)
def ctMR (G : FF) (w : Int32) : Int32 := if w = 0 then G 0 12 else if w = 1 then G 0 0 else if w = 2 then G 0 1 else if w = 3 then G 5 7 else if w = 4 then G 5 8 else if w = 5 then onI (G 5 5 ||| G 5 6) 20 else if w = 6 then nI (cntN (roB G 0) 20) else if w = 7 then G 0 15 else if w = 8 then G 0 18 else -2
def wiMF (G : FF) (nr ns k : Nat) : FF := if k = 20 then up2 G 5 16 (1 - G 5 16) else if k = 21 then up2 G 5 17 (1 - G 5 17) else if k / 4 < nr ∧ k % 4 < ns then rdM G 1 (k / 4) (k % 4) (sayM G 1 (k % 4) (k / 4)) else G
theorem wiMF_row {G : FF} {nr ns k a : Nat} (h : a ≠ 5) : wiMF G nr ns k a = G a := by
  unfold wiMF
  (repeat' split) <;> first | rfl | exact up2_row h | exact rdM_row h
def wmS (nr ns : Nat) (p : FF × Int64) : FF × Int64 := (wiMF p.1 nr ns (wv (sdN p.2)), sdN p.2)
def wmN (nr ns n : Nat) (G : FF) (x : Int64) : FF × Int64 := itN (wmS nr ns) n (G, x)
theorem wmN_0 (nr ns : Nat) (G : FF) (x : Int64) : wmN nr ns 0 G x = (G, x) := rfl
theorem wmN_s (nr ns n : Nat) (G : FF) (x : Int64) : wmN nr ns (n + 1) G x = wmN nr ns n (wiMF G nr ns (wv (sdN x))) (sdN x) := itN_s _ _ _
def wmV (G : FF) (L : Int64) (nr ns : Nat) (m : Int32) : FF × Int64 := if wnOk m = true then wmN nr ns (ix m) (lyM G) L else (G, L)
def wmR (G : FF) (L : Int64) (nr ns : Nat) (m : Int32) : Int32 := if wnOk m = true then nI (cntN (roB (wmV G L nr ns m).1 1) 20) else -2

set_option maxHeartbeats 4000000 in
theorem k_X6_sampleIn (l : Launch) (F : FF) (L : Int64) (m w k : Nat) (hw : w < 2 ^ 31) (hm : m ≤ 6) (hk : k < m) : CI l yX6_sampleIn cX6_sampleIn 4 (some .int) (rmx 1 23) wM [.ref 0, .int (nI m), .int (nI w), .int (nI k)] F L (nI (fig w (m - 1 - k)) - 1) F L := by
  refine mkI [some (.ref 0), some (.int (nI m)), some (.int (nI w)), some (.int (nI k))] 0 (by decide) rfl (Nat.le_of_ble_eq_true rfl) ?_
  intro x d hx hC
  subst hx
  have hC : Cx x cX6_sampleIn 4 RX6 (some .int) (rmx 1 23) wM d := hC
  refine WP.iln (pc := 0) hC dX6_sampleIn_0 rfl ?_
  refine WP.bipush (pc := 1) hC dX6_sampleIn_1 10 (by decide) ?_
  refine WP.iln (pc := 3) hC dX6_sampleIn_3 rfl ?_
  refine WP.iconst (pc := 4) hC dX6_sampleIn_4 1 (by decide) ?_
  refine WP.isub (pc := 5) hC dX6_sampleIn_5 ?_
  refine WP.iln (pc := 6) hC dX6_sampleIn_6 rfl ?_
  refine WP.isub (pc := 7) hC dX6_sampleIn_7 ?_
  rw [show nI m - 1 - nI k = nI (m - 1 - k) by rw [show nI m - 1 = nI (m - 1) from pk_sub (b := 1) (by omega), pk_sub (by omega)]]
  change WP _ _ _ _ _ _ _ (_ :: .int (nI 10) :: _) _ _
  refine WP.callSI (pc := 8) hC dX6_sampleIn_8 (k_X6_power _ F L wM 10 (m - 1 - k) (by omega)) ml_X6_145 rfl rfl (Nat.le_of_ble_eq_true rfl) ⟨by decide, by decide⟩ ?_
  refine WP.idiv (pc := 11) hC dX6_sampleIn_11 (pow_ne _ (by omega)) ?_
  refine WP.bipush (pc := 12) hC dX6_sampleIn_12 10 (by decide) ?_
  refine WP.irem (pc := 14) hC dX6_sampleIn_14 (by decide) ?_
  rw [pk_div hw (pow_le8 _ (by omega)).1 (pow_le8 _ (by omega)).2, show nI (w / 10 ^ (m - 1 - k)) - nI (w / 10 ^ (m - 1 - k)) / 10 * 10 = nI (fig w (m - 1 - k)) from pk_rem (d := 10) (Nat.lt_of_le_of_lt (Nat.div_le_self _ _) hw) (by decide) (by decide)]
  refine WP.iconst (pc := 15) hC dX6_sampleIn_15 1 (by decide) ?_
  refine WP.isub (pc := 16) hC dX6_sampleIn_16 ?_
  refine WP.iret (pc := 17) hC rfl dX6_sampleIn_17 ?_ ?_ ?_
  all_goals (rfl)
set_option maxHeartbeats 4000000 in
theorem k_X6_isGone (l : Launch) (F : FF) (L : Int64) (ns i m w fr : Nat) (said : Int32) (hns : ns ≤ 4) (hi : i < 5) (hm : m ≤ 6) (hw : w < 2 ^ 31) (hfr0 : fr < 100) (hsm : ∀ k, k < m → smOk w ns k = true) : CI l yX6_isGone cX6_isGone 10 (some .boolean) (rmx 2 46) wM [.ref 0, .int (nI i), .int (nI m), .int (nI w), .int said, .int (nI fr)] F L (b2 (allN (igM F i m w fr said) m)) F L := by
  refine mkI [some (.ref 0), some (.int (nI i)), some (.int (nI m)), some (.int (nI w)), some (.int said), some (.int (nI fr)), none, none, none, none] 4 (by decide) rfl (Nat.le_of_ble_eq_true rfl) ?_
  intro x d hx hC
  subst hx
  have hC : Cx x cX6_isGone 10 RX6 (some .boolean) (rmx 2 46) wM d := hC
  have loop : ∀ k, k ≤ m → ∀ a8 a9 : Option Value, WP x 10 wM d (QI x wM d (b2 (allN (igM F i m w fr said) m)) F L) 6 [some (.ref 0), some (.int (nI i)), some (.int (nI m)), some (.int (nI w)), some (.int said), some (.int (nI fr)), some (.int (b2 (allN (igM F i m w fr said) k))), some (.int (nI k)), a8, a9] [] F L := by
    refine loop_c (n := m) (P := fun k => ∀ a8 a9 : Option Value, WP x 10 wM d (QI x wM d (b2 (allN (igM F i m w fr said) m)) F L) 6 [some (.ref 0), some (.int (nI i)), some (.int (nI m)), some (.int (nI w)), some (.int said), some (.int (nI fr)), some (.int (b2 (allN (igM F i m w fr said) k))), some (.int (nI k)), a8, a9] [] F L) ?_
    intro k hk0 ih a8 a9
    refine WP.il (pc := 6) hC dX6_isGone_6 rfl ?_
    refine WP.iln (pc := 8) hC dX6_isGone_8 rfl ?_
    refine WP.icge (pc := 9) hC dX6_isGone_9 103 (by decide) (fun h9 => ?_) (fun h9 => ?_)
    · have hk9 : k = m := by
        have := (nI_leI (by omega) (by omega)).mp h9
        omega
      subst hk9
      refine WP.il (pc := 103) hC dX6_isGone_103 rfl ?_
      refine WP.zret (pc := 105) hC rfl (by first | exact Or.inl rfl | exact Or.inr rfl | exact b2_01 _) dX6_isGone_105 ?_ ?_ ?_
      all_goals (rfl)
    · have hk : k < m := (nI_ltI (by omega) (by omega)).mp (i_nle.mp h9)
      have hv := ih hk
      have hs := smOk_of hns (hsm (m - 1 - k) (by omega))
      refine WP.il (pc := 12) hC dX6_isGone_12 rfl ?_
      refine WP.il (pc := 14) hC dX6_isGone_14 rfl ?_
      refine WP.icge (pc := 16) hC dX6_isGone_16 35 (by decide) (fun h16 => ?_) (fun h16 => ?_)
      · have hfr : ¬ k < fr := fun q => nI_ge q (by omega) h16
        refine WP.iconst (pc := 35) hC dX6_isGone_35 0 (by decide) ?_
        refine WP.is (lv' := [_, _, _, _, _, _, _, _, _, _]) (pc := 36) hC dX6_isGone_36 rfl (by decide) rfl ?_
        refine WP.il (pc := 38) hC dX6_isGone_38 rfl ?_
        refine WP.bipush (pc := 40) hC dX6_isGone_40 9 (by decide) ?_
        refine WP.icge (pc := 42) hC dX6_isGone_42 50 (by decide) (fun h42 => absurd h42 (nI_ge (b := 9) (by omega) (by decide))) (fun h42 => ?_)
        refine WP.il (pc := 45) hC dX6_isGone_45 rfl ?_
        refine WP.goto (pc := 47) hC dX6_isGone_47 52 (by decide) ?_
        refine WP.is (lv' := [_, _, _, _, _, _, _, _, _, _]) (pc := 52) hC dX6_isGone_52 rfl (by decide) rfl ?_
        refine WP.il (pc := 54) hC dX6_isGone_54 rfl ?_
        refine WP.ifeq (pc := 56) hC dX6_isGone_56 94 (by decide) (fun h56 => ?_) (fun h56 => ?_)
        · have ho : b2 (allN (igM F i m w fr said) (k + 1)) = 0 := by
            first | (rw [b2_0] at h56; rw [allN, h56]; rfl) | (rw [b2_n0] at h56; rw [allN, h56]; unfold igM; have hne : ¬ gnM F i m w fr k = hasT said (nI k) := (fun z => h87 (by rw [z])); simp [b2, hne]; done)
          refine WP.iconst (pc := 94) hC dX6_isGone_94 0 (by decide) ?_
          refine WP.is (lv' := [_, _, _, _, _, _, _, _, _, _]) (pc := 95) hC dX6_isGone_95 rfl (by decide) rfl ?_
          refine WP.iinc (lv' := [_, _, _, _, _, _, _, _, _, _]) (pc := 97) hC dX6_isGone_97 rfl (_ + 1) rfl rfl (by decide) rfl ?_
          refine WP.goto (pc := 100) hC dX6_isGone_100 6 (by decide) ?_
          rw [nIp1]
          rw [ho] at hv
          exact hv _ _
        · refine WP.aln (pc := 59) hC dX6_isGone_59 rfl ?_
          refine WP.iln (pc := 60) hC dX6_isGone_60 rfl ?_
          refine WP.aln (pc := 61) hC dX6_isGone_61 rfl ?_
          refine WP.iln (pc := 62) hC dX6_isGone_62 rfl ?_
          refine WP.aln (pc := 63) hC dX6_isGone_63 rfl ?_
          refine WP.gf (pc := 64) hC dX6_isGone_64 fl_X6_7 (by decide) rfl rfl ?_
          refine WP.iln (pc := 67) hC dX6_isGone_67 rfl ?_
          refine WP.ial (pc := 68) hC dX6_isGone_68 i rfl (by omega) (by decide) rfl (by decide) ?_
          refine WP.il (pc := 69) hC dX6_isGone_69 rfl ?_
          refine WP.iconst (pc := 71) hC dX6_isGone_71 1 (by decide) ?_
          refine WP.il (pc := 72) hC dX6_isGone_72 rfl ?_
          refine WP.callVI (pc := 74) hC dX6_isGone_74 (k_X6_brightFor _ F L i _ _ (nI k) true (by omega)) ml_X6_95 rfl rfl (by decide) rfl (Nat.le_of_ble_eq_true rfl) ⟨by decide, by decide⟩ ?_
          refine WP.callVI (pc := 77) hC dX6_isGone_77 (k_X6_saysYes _ F L i _ (by omega)) ml_X6_103 rfl rfl (by decide) rfl (Nat.le_of_ble_eq_true rfl) ⟨by decide, by decide⟩ ?_
          have hg : ∀ z y, z = decide (k < fr) → y = lits z (F 4 (fig w (m - 1 - k) - 1)) → saysB (F 3 i) (F 2 i) (seesM (F 3 i) (F 1 i) y (nI k) true) = gnM F i m w fr k := fun z y hz hy => by rw [hy, hz]; rfl
          first | rw [hg true (F 4 (fig w (m - 1 - k) - 1)) (by simp [hfr]) rfl] | rw [hg false 0 (by simp [hfr]) rfl]
          refine WP.il (pc := 80) hC dX6_isGone_80 rfl ?_
          refine WP.il (pc := 82) hC dX6_isGone_82 rfl ?_
          refine WP.callSI (pc := 84) hC dX6_isGone_84 (k_X6_has _ F L wM _ _) ml_X6_115 rfl rfl (Nat.le_of_ble_eq_true rfl) ⟨by decide, by decide⟩ ?_
          refine WP.icne (pc := 87) hC dX6_isGone_87 94 (by decide) (fun h87 => ?_) (fun h87 => ?_)
          · have ho : b2 (allN (igM F i m w fr said) (k + 1)) = 0 := by
              first | (rw [b2_0] at h56; rw [allN, h56]; rfl) | (rw [b2_n0] at h56; rw [allN, h56]; unfold igM; have hne : ¬ gnM F i m w fr k = hasT said (nI k) := (fun z => h87 (by rw [z])); simp [b2, hne]; done)
            refine WP.iconst (pc := 94) hC dX6_isGone_94 0 (by decide) ?_
            refine WP.is (lv' := [_, _, _, _, _, _, _, _, _, _]) (pc := 95) hC dX6_isGone_95 rfl (by decide) rfl ?_
            refine WP.iinc (lv' := [_, _, _, _, _, _, _, _, _, _]) (pc := 97) hC dX6_isGone_97 rfl (_ + 1) rfl rfl (by decide) rfl ?_
            refine WP.goto (pc := 100) hC dX6_isGone_100 6 (by decide) ?_
            rw [nIp1]
            rw [ho] at hv
            exact hv _ _
          · have ho : b2 (allN (igM F i m w fr said) (k + 1)) = 1 := by
              rw [b2_n0] at h56
              rw [allN, h56]
              unfold igM
              rw [b2_inj h87]
              simp [b2]
            refine WP.iconst (pc := 90) hC dX6_isGone_90 1 (by decide) ?_
            refine WP.goto (pc := 91) hC dX6_isGone_91 95 (by decide) ?_
            refine WP.is (lv' := [_, _, _, _, _, _, _, _, _, _]) (pc := 95) hC dX6_isGone_95 rfl (by decide) rfl ?_
            refine WP.iinc (lv' := [_, _, _, _, _, _, _, _, _, _]) (pc := 97) hC dX6_isGone_97 rfl (_ + 1) rfl rfl (by decide) rfl ?_
            refine WP.goto (pc := 100) hC dX6_isGone_100 6 (by decide) ?_
            rw [nIp1]
            rw [ho] at hv
            exact hv _ _
      · have hfr : k < fr := (nI_ltI (by omega) (by omega)).mp (i_nle.mp h16)
        refine WP.aln (pc := 19) hC dX6_isGone_19 rfl ?_
        refine WP.gf (pc := 20) hC dX6_isGone_20 fl_X6_19 (by decide) rfl rfl ?_
        refine WP.aln (pc := 23) hC dX6_isGone_23 rfl ?_
        refine WP.iln (pc := 24) hC dX6_isGone_24 rfl ?_
        refine WP.iln (pc := 25) hC dX6_isGone_25 rfl ?_
        refine WP.il (pc := 26) hC dX6_isGone_26 rfl ?_
        refine WP.callVI (pc := 28) hC dX6_isGone_28 (k_X6_sampleIn _ F L m w k hw hm hk) ml_X6_160 rfl rfl (by decide) rfl (Nat.le_of_ble_eq_true rfl) ⟨by decide, by decide⟩ ?_
        rw [hs.2.2]
        refine WP.ial (pc := 31) hC dX6_isGone_31 (fig w (m - 1 - k) - 1) rfl (by omega) (by decide) rfl (by decide) ?_
        refine WP.goto (pc := 32) hC dX6_isGone_32 36 (by decide) ?_
        refine WP.is (lv' := [_, _, _, _, _, _, _, _, _, _]) (pc := 36) hC dX6_isGone_36 rfl (by decide) rfl ?_
        refine WP.il (pc := 38) hC dX6_isGone_38 rfl ?_
        refine WP.bipush (pc := 40) hC dX6_isGone_40 9 (by decide) ?_
        refine WP.icge (pc := 42) hC dX6_isGone_42 50 (by decide) (fun h42 => absurd h42 (nI_ge (b := 9) (by omega) (by decide))) (fun h42 => ?_)
        refine WP.il (pc := 45) hC dX6_isGone_45 rfl ?_
        refine WP.goto (pc := 47) hC dX6_isGone_47 52 (by decide) ?_
        refine WP.is (lv' := [_, _, _, _, _, _, _, _, _, _]) (pc := 52) hC dX6_isGone_52 rfl (by decide) rfl ?_
        refine WP.il (pc := 54) hC dX6_isGone_54 rfl ?_
        refine WP.ifeq (pc := 56) hC dX6_isGone_56 94 (by decide) (fun h56 => ?_) (fun h56 => ?_)
        · have ho : b2 (allN (igM F i m w fr said) (k + 1)) = 0 := by
            first | (rw [b2_0] at h56; rw [allN, h56]; rfl) | (rw [b2_n0] at h56; rw [allN, h56]; unfold igM; have hne : ¬ gnM F i m w fr k = hasT said (nI k) := (fun z => h87 (by rw [z])); simp [b2, hne]; done)
          refine WP.iconst (pc := 94) hC dX6_isGone_94 0 (by decide) ?_
          refine WP.is (lv' := [_, _, _, _, _, _, _, _, _, _]) (pc := 95) hC dX6_isGone_95 rfl (by decide) rfl ?_
          refine WP.iinc (lv' := [_, _, _, _, _, _, _, _, _, _]) (pc := 97) hC dX6_isGone_97 rfl (_ + 1) rfl rfl (by decide) rfl ?_
          refine WP.goto (pc := 100) hC dX6_isGone_100 6 (by decide) ?_
          rw [nIp1]
          rw [ho] at hv
          exact hv _ _
        · refine WP.aln (pc := 59) hC dX6_isGone_59 rfl ?_
          refine WP.iln (pc := 60) hC dX6_isGone_60 rfl ?_
          refine WP.aln (pc := 61) hC dX6_isGone_61 rfl ?_
          refine WP.iln (pc := 62) hC dX6_isGone_62 rfl ?_
          refine WP.aln (pc := 63) hC dX6_isGone_63 rfl ?_
          refine WP.gf (pc := 64) hC dX6_isGone_64 fl_X6_7 (by decide) rfl rfl ?_
          refine WP.iln (pc := 67) hC dX6_isGone_67 rfl ?_
          refine WP.ial (pc := 68) hC dX6_isGone_68 i rfl (by omega) (by decide) rfl (by decide) ?_
          refine WP.il (pc := 69) hC dX6_isGone_69 rfl ?_
          refine WP.iconst (pc := 71) hC dX6_isGone_71 1 (by decide) ?_
          refine WP.il (pc := 72) hC dX6_isGone_72 rfl ?_
          refine WP.callVI (pc := 74) hC dX6_isGone_74 (k_X6_brightFor _ F L i _ _ (nI k) true (by omega)) ml_X6_95 rfl rfl (by decide) rfl (Nat.le_of_ble_eq_true rfl) ⟨by decide, by decide⟩ ?_
          refine WP.callVI (pc := 77) hC dX6_isGone_77 (k_X6_saysYes _ F L i _ (by omega)) ml_X6_103 rfl rfl (by decide) rfl (Nat.le_of_ble_eq_true rfl) ⟨by decide, by decide⟩ ?_
          have hg : ∀ z y, z = decide (k < fr) → y = lits z (F 4 (fig w (m - 1 - k) - 1)) → saysB (F 3 i) (F 2 i) (seesM (F 3 i) (F 1 i) y (nI k) true) = gnM F i m w fr k := fun z y hz hy => by rw [hy, hz]; rfl
          first | rw [hg true (F 4 (fig w (m - 1 - k) - 1)) (by simp [hfr]) rfl] | rw [hg false 0 (by simp [hfr]) rfl]
          refine WP.il (pc := 80) hC dX6_isGone_80 rfl ?_
          refine WP.il (pc := 82) hC dX6_isGone_82 rfl ?_
          refine WP.callSI (pc := 84) hC dX6_isGone_84 (k_X6_has _ F L wM _ _) ml_X6_115 rfl rfl (Nat.le_of_ble_eq_true rfl) ⟨by decide, by decide⟩ ?_
          refine WP.icne (pc := 87) hC dX6_isGone_87 94 (by decide) (fun h87 => ?_) (fun h87 => ?_)
          · have ho : b2 (allN (igM F i m w fr said) (k + 1)) = 0 := by
              first | (rw [b2_0] at h56; rw [allN, h56]; rfl) | (rw [b2_n0] at h56; rw [allN, h56]; unfold igM; have hne : ¬ gnM F i m w fr k = hasT said (nI k) := (fun z => h87 (by rw [z])); simp [b2, hne]; done)
            refine WP.iconst (pc := 94) hC dX6_isGone_94 0 (by decide) ?_
            refine WP.is (lv' := [_, _, _, _, _, _, _, _, _, _]) (pc := 95) hC dX6_isGone_95 rfl (by decide) rfl ?_
            refine WP.iinc (lv' := [_, _, _, _, _, _, _, _, _, _]) (pc := 97) hC dX6_isGone_97 rfl (_ + 1) rfl rfl (by decide) rfl ?_
            refine WP.goto (pc := 100) hC dX6_isGone_100 6 (by decide) ?_
            rw [nIp1]
            rw [ho] at hv
            exact hv _ _
          · have ho : b2 (allN (igM F i m w fr said) (k + 1)) = 1 := by
              rw [b2_n0] at h56
              rw [allN, h56]
              unfold igM
              rw [b2_inj h87]
              simp [b2]
            refine WP.iconst (pc := 90) hC dX6_isGone_90 1 (by decide) ?_
            refine WP.goto (pc := 91) hC dX6_isGone_91 95 (by decide) ?_
            refine WP.is (lv' := [_, _, _, _, _, _, _, _, _, _]) (pc := 95) hC dX6_isGone_95 rfl (by decide) rfl ?_
            refine WP.iinc (lv' := [_, _, _, _, _, _, _, _, _, _]) (pc := 97) hC dX6_isGone_97 rfl (_ + 1) rfl rfl (by decide) rfl ?_
            refine WP.goto (pc := 100) hC dX6_isGone_100 6 (by decide) ?_
            rw [nIp1]
            rw [ho] at hv
            exact hv _ _
  refine WP.iconst (pc := 0) hC dX6_isGone_0 1 (by decide) ?_
  refine WP.is (lv' := [_, _, _, _, _, _, _, _, _, _]) (pc := 1) hC dX6_isGone_1 rfl (by decide) rfl ?_
  refine WP.iconst (pc := 3) hC dX6_isGone_3 0 (by decide) ?_
  refine WP.is (lv' := [_, _, _, _, _, _, _, _, _, _]) (pc := 4) hC dX6_isGone_4 rfl (by decide) rfl ?_
  exact loop 0 (Nat.zero_le _) _ _
set_option maxHeartbeats 4000000 in
theorem k_X6_gone (l : Launch) (F : FF) (L : Int64) (nr ns : Nat) (r n row said : Int32) (hM : MR F nr ns) : CI l yX6_gone cX6_gone 7 (some .int) (rmx 3 75) wM [.ref 0, .int r, .int n, .int row, .int said] F L (gnMR F nr ns r n row said) F L := by
  refine mkI [some (.ref 0), some (.int r), some (.int n), some (.int row), some (.int said), none, none] 2 (by decide) rfl (Nat.le_of_ble_eq_true rfl) ?_
  intro x d hx hC
  subst hx
  have hC : Cx x cX6_gone 7 RX6 (some .int) (rmx 3 75) wM d := hC
  refine WP.aln (pc := 0) hC dX6_gone_0 rfl ?_
  refine WP.iln (pc := 1) hC dX6_gone_1 rfl ?_
  refine WP.callVI (pc := 2) hC dX6_gone_2 (k_X6_isReader _ F L nr ns r hM) ml_X6_111 rfl rfl (by decide) rfl (Nat.le_of_ble_eq_true rfl) ⟨by decide, by decide⟩ ?_
  refine WP.ifne (pc := 5) hC dX6_gone_5 10 (by decide) (fun h5 => ?_) (fun h5 => ?_)
  · rw [b2_n0] at h5
    obtain ⟨i, hi, rfl⟩ := hasB_of hM.2.2.1 h5
    have hi5 : i < 5 := by have := hM.2.2.1; omega
    have ei : ix (nI i) = i := ix_nI (by omega)
    refine WP.iln (pc := 10) hC dX6_gone_10 rfl ?_
    refine WP.i2l (pc := 11) hC dX6_gone_11 ?_
    refine WP.lconst (pc := 12) hC dX6_gone_12 1 (by decide) ?_
    refine WP.ldc2 (pc := 13) hC dX6_gone_13 cs_X6_163 ?_
    refine WP.callSI (pc := 16) hC dX6_gone_16 (k_X6_in _ F L wM _ _ _) ml_X6_58 rfl rfl (Nat.le_of_ble_eq_true rfl) ⟨by decide, by decide⟩ ?_
    rw [in16]
    refine WP.ifeq (pc := 19) hC dX6_gone_19 56 (by decide) (fun h19 => ?_) (fun h19 => ?_)
    · refine WP.bipush (pc := 56) hC dX6_gone_56 (-2) (by decide) ?_
      refine WP.iret (pc := 58) hC rfl dX6_gone_58 ?_ ?_ ?_
      all_goals (first | rfl | (unfold gnMR; rw [if_pos h5]; refine (if_neg ?_).symm; unfold gnOk; rw [Bool.and_eq_true, Bool.and_eq_true, Bool.and_eq_true, decide_eq_true_eq, decide_eq_true_eq]; rintro ⟨⟨q1, q2⟩, q3, q4⟩; first | (rw [b2_0, Bool.and_eq_false_iff, decide_eq_false_iff_not, decide_eq_false_iff_not] at h19; rcases h19 with z | z; exact z q1; exact z q2) | (rw [b2_0] at h53; rw [ix_nI (by omega), h53] at q4; cases q4) | (rw [b2_0] at h37; rw [ix_nI (by omega), h37] at q3; cases q3)))
    · rw [b2_n0, Bool.and_eq_true, decide_eq_true_eq, decide_eq_true_eq] at h19
      obtain ⟨m, hm1, hm6, rfl⟩ := ixm (K := 6) h19.1 h19.2 (by decide)
      refine WP.iln (pc := 22) hC dX6_gone_22 rfl ?_
      refine WP.i2l (pc := 23) hC dX6_gone_23 ?_
      refine WP.lconst (pc := 24) hC dX6_gone_24 0 (by decide) ?_
      refine WP.bipush (pc := 25) hC dX6_gone_25 10 (by decide) ?_
      refine WP.iln (pc := 27) hC dX6_gone_27 rfl ?_
      change WP _ _ _ _ _ _ _ (_ :: .int (nI 10) :: _) _ _
      refine WP.callSI (pc := 28) hC dX6_gone_28 (k_X6_power _ F L wM 10 m (by omega)) ml_X6_145 rfl rfl (Nat.le_of_ble_eq_true rfl) ⟨by decide, by decide⟩ ?_
      refine WP.iconst (pc := 31) hC dX6_gone_31 1 (by decide) ?_
      refine WP.isub (pc := 32) hC dX6_gone_32 ?_
      refine WP.i2l (pc := 33) hC dX6_gone_33 ?_
      refine WP.callSI (pc := 34) hC dX6_gone_34 (k_X6_in _ F L wM _ _ _) ml_X6_58 rfl rfl (Nat.le_of_ble_eq_true rfl) ⟨by decide, by decide⟩ ?_
      rw [in0p (pow_le8 m (by omega)).1 (pow_le8 m (by omega)).2, show (decide (0 ≤ row) && decide (row < nI (10 ^ m))) = rowOk row m from rfl]
      refine WP.ifeq (pc := 37) hC dX6_gone_37 56 (by decide) (fun h37 => ?_) (fun h37 => ?_)
      · refine WP.bipush (pc := 56) hC dX6_gone_56 (-2) (by decide) ?_
        refine WP.iret (pc := 58) hC rfl dX6_gone_58 ?_ ?_ ?_
        all_goals (first | rfl | (unfold gnMR; rw [if_pos h5]; refine (if_neg ?_).symm; unfold gnOk; rw [Bool.and_eq_true, Bool.and_eq_true, Bool.and_eq_true, decide_eq_true_eq, decide_eq_true_eq]; rintro ⟨⟨q1, q2⟩, q3, q4⟩; first | (rw [b2_0, Bool.and_eq_false_iff, decide_eq_false_iff_not, decide_eq_false_iff_not] at h19; rcases h19 with z | z; exact z q1; exact z q2) | (rw [b2_0] at h53; rw [ix_nI (by omega), h53] at q4; cases q4) | (rw [b2_0] at h37; rw [ix_nI (by omega), h37] at q3; cases q3)))
      · rw [b2_n0] at h37
        obtain ⟨w, hw, rfl⟩ := nI_of (x := row) (by
          have h37 := h37
          unfold rowOk at h37
          rw [Bool.and_eq_true, decide_eq_true_eq] at h37
          exact i_nlt.mpr h37.1)
        refine WP.il (pc := 40) hC dX6_gone_40 rfl ?_
        refine WP.i2l (pc := 42) hC dX6_gone_42 ?_
        refine WP.lconst (pc := 43) hC dX6_gone_43 0 (by decide) ?_
        refine WP.iconst (pc := 44) hC dX6_gone_44 1 (by decide) ?_
        refine WP.iln (pc := 45) hC dX6_gone_45 rfl ?_
        refine WP.ishl (pc := 46) hC dX6_gone_46 ?_
        rw [shX m (by omega)]
        refine WP.iconst (pc := 47) hC dX6_gone_47 1 (by decide) ?_
        refine WP.isub (pc := 48) hC dX6_gone_48 ?_
        refine WP.i2l (pc := 49) hC dX6_gone_49 ?_
        refine WP.callSI (pc := 50) hC dX6_gone_50 (k_X6_in _ F L wM _ _ _) ml_X6_58 rfl rfl (Nat.le_of_ble_eq_true rfl) ⟨by decide, by decide⟩ ?_
        rw [in0p (Nat.pow_pos (by decide)) (Nat.lt_of_lt_of_le (Nat.pow_lt_pow_right (by decide) (show m < 7 by omega)) (by decide))]
        refine WP.ifne (pc := 53) hC dX6_gone_53 59 (by decide) (fun h53 => ?_) (fun h53 => ?_)
        · rw [b2_n0] at h53
          have hok : gnOk (nI m) (nI w) said = true := by
            unfold gnOk
            rw [ix_nI (by omega), h37, h53]
            simp [h19.1, h19.2]
          have ei : ix (nI i) = i := ix_nI (by omega)
          have em : ix (nI m) = m := ix_nI (by omega)
          have ew : ix (nI w) = w := nI_clamp hw
          have hV0 : allN (fun k => smOk w ns (m - 1 - k)) m = false → gnMR F nr ns (nI i) (nI m) (nI w) said = -3 := fun q => by unfold gnMR; rw [if_pos h5, if_pos hok, ew, em, q]; rfl
          have hV1 : allN (fun k => smOk w ns (m - 1 - k)) m = true → gnMR F nr ns (nI i) (nI m) (nI w) said = nI (bits (fun fr => allN (igM F i m w fr said) m) (m + 1)) := fun q => by unfold gnMR; rw [if_pos h5, if_pos hok, ew, em, ei, if_pos q]
          generalize gnMR F nr ns (nI i) (nI m) (nI w) said = V at hV0 hV1 ⊢
          have loop : ∀ k, k ≤ m → ∀ a6 : Option Value, allN (fun k => smOk w ns (m - 1 - k)) k = true → WP x 7 wM d (QI x wM d V F L) 62 [some (.ref 0), some (.int (nI i)), some (.int (nI m)), some (.int (nI w)), some (.int said), some (.int (nI k)), a6] [] F L := by
            refine loop_c (n := m) (P := fun k => ∀ a6 : Option Value, allN (fun k => smOk w ns (m - 1 - k)) k = true → WP x 7 wM d (QI x wM d V F L) 62 [some (.ref 0), some (.int (nI i)), some (.int (nI m)), some (.int (nI w)), some (.int said), some (.int (nI k)), a6] [] F L) ?_
            intro k hk0 ih a6 ha
            refine WP.il (pc := 62) hC dX6_gone_62 rfl ?_
            refine WP.iln (pc := 64) hC dX6_gone_64 rfl ?_
            refine WP.icge (pc := 65) hC dX6_gone_65 92 (by decide) (fun h65 => ?_) (fun h65 => ?_)
            · have hk9 : k = m := by
                have := (nI_leI (by omega) (by omega)).mp h65
                omega
              subst hk9
              have hsm : ∀ q, q < k → smOk w ns q = true := fun q hq => by
                have := allN_t ha (k - 1 - q) (by omega)
                rw [show k - 1 - (k - 1 - q) = q by omega] at this
                exact this
              have hV1 := hV1 ha
              have loop2 : ∀ fr, fr ≤ k + 1 → WP x 7 wM d (QI x wM d V F L) 98 [some (.ref 0), some (.int (nI i)), some (.int (nI k)), some (.int (nI w)), some (.int said), some (.int (nI (bits (fun fr => allN (igM F i k w fr said) k) fr))), some (.int (nI fr))] [] F L := by
                refine loop_c (n := k + 1) (P := fun fr => WP x 7 wM d (QI x wM d V F L) 98 [some (.ref 0), some (.int (nI i)), some (.int (nI k)), some (.int (nI w)), some (.int said), some (.int (nI (bits (fun fr => allN (igM F i k w fr said) k) fr))), some (.int (nI fr))] [] F L) ?_
                intro fr hf0 ih
                refine WP.il (pc := 98) hC dX6_gone_98 rfl ?_
                refine WP.iln (pc := 100) hC dX6_gone_100 rfl ?_
                refine WP.icgt (pc := 101) hC dX6_gone_101 137 (by decide) (fun h101 => ?_) (fun h101 => ?_)
                · have hf9 : fr = k + 1 := by
                    have := (nI_ltI (by omega) (by omega)).mp h101
                    omega
                  subst hf9
                  refine WP.il (pc := 137) hC dX6_gone_137 rfl ?_
                  refine WP.iret (pc := 139) hC rfl dX6_gone_139 ?_ ?_ ?_
                  all_goals (first | rfl | exact hV1.symm)
                · have hf : fr < k + 1 := by
                    have := (nI_leI (by omega) (by omega)).mp (i_nlt.mp h101)
                    omega
                  have hv := ih hf
                  refine WP.il (pc := 104) hC dX6_gone_104 rfl ?_
                  refine WP.aln (pc := 106) hC dX6_gone_106 rfl ?_
                  refine WP.iln (pc := 107) hC dX6_gone_107 rfl ?_
                  refine WP.iln (pc := 108) hC dX6_gone_108 rfl ?_
                  refine WP.iln (pc := 109) hC dX6_gone_109 rfl ?_
                  refine WP.il (pc := 110) hC dX6_gone_110 rfl ?_
                  refine WP.il (pc := 112) hC dX6_gone_112 rfl ?_
                  refine WP.callVI (pc := 114) hC dX6_gone_114 (k_X6_isGone _ F L ns i k w fr said hM.2.2.2 (by omega) hm6 hw (by omega) hsm) ml_X6_165 rfl rfl (by decide) rfl (Nat.le_of_ble_eq_true rfl) ⟨by decide, by decide⟩ ?_
                  refine WP.ifeq (pc := 117) hC dX6_gone_117 127 (by decide) (fun h117 => ?_) (fun h117 => ?_)
                  · rw [b2_0] at h117
                    refine WP.iconst (pc := 127) hC dX6_gone_127 0 (by decide) ?_
                    refine WP.ior (pc := 128) hC dX6_gone_128 ?_
                    first | rw [shX fr (by omega), or_bitX fr (by omega) _ (bits_lt _ _)] | rw [or0]
                    refine WP.is (lv' := [_, _, _, _, _, _, _]) (pc := 129) hC dX6_gone_129 rfl (by decide) rfl ?_
                    refine WP.iinc (lv' := [_, _, _, _, _, _, _]) (pc := 131) hC dX6_gone_131 rfl (_ + 1) rfl rfl (by decide) rfl ?_
                    refine WP.goto (pc := 134) hC dX6_gone_134 98 (by decide) ?_
                    rw [nIp1]
                    first | (rw [bits_t (f := (fun fr => allN (igM F i k w fr said) k)) h117] at hv; exact hv) | (rw [bits_f (f := (fun fr => allN (igM F i k w fr said) k)) h117] at hv; exact hv)
                  · rw [b2_n0] at h117
                    refine WP.iconst (pc := 120) hC dX6_gone_120 1 (by decide) ?_
                    refine WP.il (pc := 121) hC dX6_gone_121 rfl ?_
                    refine WP.ishl (pc := 123) hC dX6_gone_123 ?_
                    refine WP.goto (pc := 124) hC dX6_gone_124 128 (by decide) ?_
                    refine WP.ior (pc := 128) hC dX6_gone_128 ?_
                    first | rw [shX fr (by omega), or_bitX fr (by omega) _ (bits_lt _ _)] | rw [or0]
                    refine WP.is (lv' := [_, _, _, _, _, _, _]) (pc := 129) hC dX6_gone_129 rfl (by decide) rfl ?_
                    refine WP.iinc (lv' := [_, _, _, _, _, _, _]) (pc := 131) hC dX6_gone_131 rfl (_ + 1) rfl rfl (by decide) rfl ?_
                    refine WP.goto (pc := 134) hC dX6_gone_134 98 (by decide) ?_
                    rw [nIp1]
                    first | (rw [bits_t (f := (fun fr => allN (igM F i k w fr said) k)) h117] at hv; exact hv) | (rw [bits_f (f := (fun fr => allN (igM F i k w fr said) k)) h117] at hv; exact hv)
              refine WP.iconst (pc := 92) hC dX6_gone_92 0 (by decide) ?_
              refine WP.is (lv' := [_, _, _, _, _, _, _]) (pc := 93) hC dX6_gone_93 rfl (by decide) rfl ?_
              refine WP.iconst (pc := 95) hC dX6_gone_95 0 (by decide) ?_
              refine WP.is (lv' := [_, _, _, _, _, _, _]) (pc := 96) hC dX6_gone_96 rfl (by decide) rfl ?_
              exact loop2 0 (Nat.zero_le _)
            · have hk : k < m := (nI_ltI (by omega) (by omega)).mp (i_nle.mp h65)
              have hv := ih hk
              refine WP.aln (pc := 68) hC dX6_gone_68 rfl ?_
              refine WP.aln (pc := 69) hC dX6_gone_69 rfl ?_
              refine WP.iln (pc := 70) hC dX6_gone_70 rfl ?_
              refine WP.iln (pc := 71) hC dX6_gone_71 rfl ?_
              refine WP.il (pc := 72) hC dX6_gone_72 rfl ?_
              refine WP.callVI (pc := 74) hC dX6_gone_74 (k_X6_sampleIn _ F L m w k hw hm6 hk) ml_X6_160 rfl rfl (by decide) rfl (Nat.le_of_ble_eq_true rfl) ⟨by decide, by decide⟩ ?_
              refine WP.callVI (pc := 77) hC dX6_gone_77 (k_X6_isSample _ F L nr ns _ hM) ml_X6_118 rfl rfl (by decide) rfl (Nat.le_of_ble_eq_true rfl) ⟨by decide, by decide⟩ ?_
              rw [show hasB (nI (fig w (m - 1 - k)) - 1) ns = smOk w ns (m - 1 - k) from rfl]
              refine WP.ifne (pc := 80) hC dX6_gone_80 86 (by decide) (fun h80 => ?_) (fun h80 => ?_)
              · rw [b2_n0] at h80
                refine WP.iinc (lv' := [_, _, _, _, _, _, _]) (pc := 86) hC dX6_gone_86 rfl (_ + 1) rfl rfl (by decide) rfl ?_
                refine WP.goto (pc := 89) hC dX6_gone_89 62 (by decide) ?_
                rw [nIp1]
                exact hv _ (by rw [allN, ha, h80]; rfl)
              · rw [b2_0] at h80
                refine WP.bipush (pc := 83) hC dX6_gone_83 (-3) (by decide) ?_
                refine WP.iret (pc := 85) hC rfl dX6_gone_85 ?_ ?_ ?_
                all_goals (first | rfl | (rw [hV0 (allN_f (f := (fun k => smOk w ns (m - 1 - k))) h80 m hk)]))
          refine WP.iconst (pc := 59) hC dX6_gone_59 0 (by decide) ?_
          refine WP.is (lv' := [_, _, _, _, _, _, _]) (pc := 60) hC dX6_gone_60 rfl (by decide) rfl ?_
          exact loop 0 (Nat.zero_le _) _ rfl
        · refine WP.bipush (pc := 56) hC dX6_gone_56 (-2) (by decide) ?_
          refine WP.iret (pc := 58) hC rfl dX6_gone_58 ?_ ?_ ?_
          all_goals (first | rfl | (unfold gnMR; rw [if_pos h5]; refine (if_neg ?_).symm; unfold gnOk; rw [Bool.and_eq_true, Bool.and_eq_true, Bool.and_eq_true, decide_eq_true_eq, decide_eq_true_eq]; rintro ⟨⟨q1, q2⟩, q3, q4⟩; first | (rw [b2_0, Bool.and_eq_false_iff, decide_eq_false_iff_not, decide_eq_false_iff_not] at h19; rcases h19 with z | z; exact z q1; exact z q2) | (rw [b2_0] at h53; rw [ix_nI (by omega), h53] at q4; cases q4) | (rw [b2_0] at h37; rw [ix_nI (by omega), h37] at q3; cases q3)))
  · rw [b2_0] at h5
    refine WP.iconst (pc := 8) hC dX6_gone_8 (-1) (by decide) ?_
    refine WP.iret (pc := 9) hC rfl dX6_gone_9 ?_ ?_ ?_
    all_goals (first | rfl | (unfold gnMR; rw [if_neg (by rw [h5]; decide)]))
set_option maxHeartbeats 4000000 in
theorem k_X6_keep (l : Launch) (F : FF) (L : Int64) (s : Int32) : CI l yX6_keep cX6_keep 3 (some .int) (rmx 1 25) wM [.ref 0, .int s] F L (kpMR F s) (kpMF F s) L := by
  refine mkI [some (.ref 0), some (.int s), none] 1 (by decide) rfl (Nat.le_of_ble_eq_true rfl) ?_
  intro x d hx hC
  subst hx
  have hC : Cx x cX6_keep 3 RX6 (some .int) (rmx 1 25) wM d := hC
  refine WP.iln (pc := 0) hC dX6_keep_0 rfl ?_
  refine WP.i2l (pc := 1) hC dX6_keep_1 ?_
  refine WP.lconst (pc := 2) hC dX6_keep_2 0 (by decide) ?_
  refine WP.lconst (pc := 3) hC dX6_keep_3 1 (by decide) ?_
  refine WP.callSI (pc := 4) hC dX6_keep_4 (k_X6_in _ F L wM _ _ _) ml_X6_58 rfl rfl (Nat.le_of_ble_eq_true rfl) ⟨by decide, by decide⟩ ?_
  rw [in01_has]
  refine WP.ifne (pc := 7) hC dX6_keep_7 12 (by decide) (fun h7 => ?_) (fun h7 => ?_)
  · rw [b2_n0] at h7
    obtain ⟨j, hj, rfl⟩ := hasB_of (by decide) h7
    have ej : ix (nI j) = j := ix_nI (by omega)
    rw [show kpMR F (nI j) = onI (F 5 5 ||| F 5 6) 20 by unfold kpMR; rw [if_pos h7], show kpMF F (nI j) = upF (up2 F 14 j 1) 15 (ovl (F 15) (9 * j) (F 5) 9) by unfold kpMF; rw [if_pos h7, ej]]
    have loop : ∀ k, k ≤ 9 → WP x 3 wM d (QI x wM d (onI (F 5 5 ||| F 5 6) 20) (upF (up2 F 14 j 1) 15 (ovl (F 15) (9 * j) (F 5) 9)) L) 21 [some (.ref 0), some (.int (nI j)), some (.int (nI k))] [] (upF (up2 F 14 j 1) 15 (ovl (F 15) (9 * j) (F 5) k)) L := by
      refine loop_c (n := 9) (P := fun k => WP x 3 wM d (QI x wM d (onI (F 5 5 ||| F 5 6) 20) (upF (up2 F 14 j 1) 15 (ovl (F 15) (9 * j) (F 5) 9)) L) 21 [some (.ref 0), some (.int (nI j)), some (.int (nI k))] [] (upF (up2 F 14 j 1) 15 (ovl (F 15) (9 * j) (F 5) k)) L) ?_
      intro k hk0 ih
      refine WP.iln (pc := 21) hC dX6_keep_21 rfl ?_
      refine WP.bipush (pc := 22) hC dX6_keep_22 9 (by decide) ?_
      refine WP.icge (pc := 24) hC dX6_keep_24 50 (by decide) (fun h24 => ?_) (fun h24 => ?_)
      · have hk9 : k = 9 := by
          have := (nI_leI (a := 9) (by decide) (by omega)).mp h24
          omega
        subst hk9
        refine WP.aln (pc := 50) hC dX6_keep_50 rfl ?_
        refine WP.gf (pc := 51) hC dX6_keep_51 fl_X6_22 (by decide) rfl rfl ?_
        refine WP.iconst (pc := 54) hC dX6_keep_54 5 (by decide) ?_
        refine WP.ial (pc := 55) hC dX6_keep_55 5 rfl (by decide) (by decide) rfl (by decide) ?_
        refine WP.aln (pc := 56) hC dX6_keep_56 rfl ?_
        refine WP.gf (pc := 57) hC dX6_keep_57 fl_X6_22 (by decide) rfl rfl ?_
        refine WP.bipush (pc := 60) hC dX6_keep_60 6 (by decide) ?_
        refine WP.ial (pc := 62) hC dX6_keep_62 6 rfl (by decide) (by decide) rfl (by decide) ?_
        refine WP.ior (pc := 63) hC dX6_keep_63 ?_
        refine WP.callSI (pc := 64) hC dX6_keep_64 (k_X6_ones _ _ L wM _) ml_X6_137 rfl rfl (Nat.le_of_ble_eq_true rfl) ⟨by decide, by decide⟩ ?_
        refine WP.iret (pc := 67) hC rfl dX6_keep_67 ?_ ?_ ?_
        all_goals (rfl)
      · have hk : k < 9 := (nI_ltI (b := 9) (by omega) (by decide)).mp (i_nle.mp h24)
        have hv := ih hk
        refine WP.aln (pc := 27) hC dX6_keep_27 rfl ?_
        refine WP.gf (pc := 28) hC dX6_keep_28 fl_X6_53 (by decide) rfl rfl ?_
        refine WP.bipush (pc := 31) hC dX6_keep_31 9 (by decide) ?_
        refine WP.iln (pc := 33) hC dX6_keep_33 rfl ?_
        refine WP.imul (pc := 34) hC dX6_keep_34 ?_
        refine WP.iln (pc := 35) hC dX6_keep_35 rfl ?_
        refine WP.iadd (pc := 36) hC dX6_keep_36 ?_
        rw [show (9 : Int32) * nI j = nI (9 * j) from pk_mul 9 j, nI_add]
        refine WP.aln (pc := 37) hC dX6_keep_37 rfl ?_
        refine WP.gf (pc := 38) hC dX6_keep_38 fl_X6_22 (by decide) rfl rfl ?_
        refine WP.iln (pc := 41) hC dX6_keep_41 rfl ?_
        refine WP.ial (pc := 42) hC dX6_keep_42 k rfl (by omega) (by decide) rfl (by decide) ?_
        refine WP.ias (pc := 43) hC dX6_keep_43 (9 * j + k) rfl (by omega) (by decide) rfl rfl (by decide) ?_
        rw [show upF (up2 F 14 j 1) 15 (ovl (F 15) (9 * j) (F 5) k) 5 k = F 5 k from rfl, upF_up2, ovl_up]
        refine WP.iinc (lv' := [_, _, _]) (pc := 44) hC dX6_keep_44 rfl (_ + 1) rfl rfl (by decide) rfl ?_
        refine WP.goto (pc := 47) hC dX6_keep_47 21 (by decide) ?_
        rw [nIp1]
        exact hv
    refine WP.aln (pc := 12) hC dX6_keep_12 rfl ?_
    refine WP.gf (pc := 13) hC dX6_keep_13 fl_X6_49 (by decide) rfl rfl ?_
    refine WP.iln (pc := 16) hC dX6_keep_16 rfl ?_
    refine WP.iconst (pc := 17) hC dX6_keep_17 1 (by decide) ?_
    refine WP.zas (pc := 18) hC dX6_keep_18 j rfl hj (Or.inr rfl) (by decide) rfl rfl (by decide) ?_
    refine WP.iconst (pc := 19) hC dX6_keep_19 0 (by decide) ?_
    refine WP.isn (lv' := [_, _, _]) (pc := 20) hC dX6_keep_20 rfl (by decide) rfl ?_
    have hz := loop 0 (by decide)
    rw [ovl_0, show F 15 = up2 F 14 j 1 15 from rfl, upF_self] at hz
    exact hz
  · rw [b2_0] at h7
    refine WP.iconst (pc := 10) hC dX6_keep_10 (-1) (by decide) ?_
    refine WP.iret (pc := 11) hC rfl dX6_keep_11 ?_ ?_ ?_
    all_goals (first | rfl | (unfold kpMR; rw [if_neg (by rw [h7]; decide)]) | (unfold kpMF; rw [if_neg (by rw [h7]; decide)]))
set_option maxHeartbeats 4000000 in
theorem k_X6_again (l : Launch) (F : FF) (L : Int64) (s : Int32) : CI l yX6_again cX6_again 3 (some .int) (rmx 1 25) wM [.ref 0, .int s] F L (agMR F s) (agMF F s) L := by
  refine mkI [some (.ref 0), some (.int s), none] 1 (by decide) rfl (Nat.le_of_ble_eq_true rfl) ?_
  intro x d hx hC
  subst hx
  have hC : Cx x cX6_again 3 RX6 (some .int) (rmx 1 25) wM d := hC
  refine WP.iln (pc := 0) hC dX6_again_0 rfl ?_
  refine WP.i2l (pc := 1) hC dX6_again_1 ?_
  refine WP.lconst (pc := 2) hC dX6_again_2 0 (by decide) ?_
  refine WP.lconst (pc := 3) hC dX6_again_3 1 (by decide) ?_
  refine WP.callSI (pc := 4) hC dX6_again_4 (k_X6_in _ F L wM _ _ _) ml_X6_58 rfl rfl (Nat.le_of_ble_eq_true rfl) ⟨by decide, by decide⟩ ?_
  rw [in01_has]
  refine WP.ifne (pc := 7) hC dX6_again_7 12 (by decide) (fun h7 => ?_) (fun h7 => ?_)
  · rw [b2_n0] at h7
    obtain ⟨j, hj, rfl⟩ := hasB_of (by decide) h7
    have ej : ix (nI j) = j := ix_nI (by omega)
    refine WP.aln (pc := 12) hC dX6_again_12 rfl ?_
    refine WP.gf (pc := 13) hC dX6_again_13 fl_X6_49 (by decide) rfl rfl ?_
    refine WP.iln (pc := 16) hC dX6_again_16 rfl ?_
    refine WP.zal (pc := 17) hC dX6_again_17 j rfl hj (by decide) rfl (by decide) ?_
    refine WP.ifne (pc := 18) hC dX6_again_18 24 (by decide) (fun h18 => ?_) (fun h18 => ?_)
    · rw [show agMR F (nI j) = onI (F 15 (9 * j + 5) ||| F 15 (9 * j + 6)) 20 by unfold agMR; rw [if_pos h7, ej, if_neg h18], show agMF F (nI j) = up2 (upF F 5 (ovl (F 5) 0 (fun k => F 15 (9 * j + k)) 9)) 0 15 0 by unfold agMF; rw [if_pos h7, ej, if_neg h18]]
      have loop : ∀ k, k ≤ 9 → WP x 3 wM d (QI x wM d (onI (F 15 (9 * j + 5) ||| F 15 (9 * j + 6)) 20) (up2 (upF F 5 (ovl (F 5) 0 (fun k => F 15 (9 * j + k)) 9)) 0 15 0) L) 26 [some (.ref 0), some (.int (nI j)), some (.int (nI k))] [] (upF F 5 (ovl (F 5) 0 (fun k => F 15 (9 * j + k)) k)) L := by
        refine loop_c (n := 9) (P := fun k => WP x 3 wM d (QI x wM d (onI (F 15 (9 * j + 5) ||| F 15 (9 * j + 6)) 20) (up2 (upF F 5 (ovl (F 5) 0 (fun k => F 15 (9 * j + k)) 9)) 0 15 0) L) 26 [some (.ref 0), some (.int (nI j)), some (.int (nI k))] [] (upF F 5 (ovl (F 5) 0 (fun k => F 15 (9 * j + k)) k)) L) ?_
        intro k hk0 ih
        refine WP.iln (pc := 26) hC dX6_again_26 rfl ?_
        refine WP.bipush (pc := 27) hC dX6_again_27 9 (by decide) ?_
        refine WP.icge (pc := 29) hC dX6_again_29 55 (by decide) (fun h29 => ?_) (fun h29 => ?_)
        · have hk9 : k = 9 := by
            have := (nI_leI (a := 9) (by decide) (by omega)).mp h29
            omega
          subst hk9
          refine WP.aln (pc := 55) hC dX6_again_55 rfl ?_
          refine WP.iconst (pc := 56) hC dX6_again_56 0 (by decide) ?_
          refine WP.pf (pc := 57) hC dX6_again_57 fp_X6_92 rfl rfl (by decide) rfl rfl (Nat.le_of_ble_eq_true rfl) ?_
          refine WP.aln (pc := 60) hC dX6_again_60 rfl ?_
          refine WP.gf (pc := 61) hC dX6_again_61 fl_X6_22 (by decide) rfl rfl ?_
          refine WP.iconst (pc := 64) hC dX6_again_64 5 (by decide) ?_
          refine WP.ial (pc := 65) hC dX6_again_65 5 rfl (by decide) (by decide) rfl (by decide) ?_
          refine WP.aln (pc := 66) hC dX6_again_66 rfl ?_
          refine WP.gf (pc := 67) hC dX6_again_67 fl_X6_22 (by decide) rfl rfl ?_
          refine WP.bipush (pc := 70) hC dX6_again_70 6 (by decide) ?_
          refine WP.ial (pc := 72) hC dX6_again_72 6 rfl (by decide) (by decide) rfl (by decide) ?_
          refine WP.ior (pc := 73) hC dX6_again_73 ?_
          refine WP.callSI (pc := 74) hC dX6_again_74 (k_X6_ones _ _ L wM _) ml_X6_137 rfl rfl (Nat.le_of_ble_eq_true rfl) ⟨by decide, by decide⟩ ?_
          refine WP.iret (pc := 77) hC rfl dX6_again_77 ?_ ?_ ?_
          all_goals (rfl)
        · have hk : k < 9 := (nI_ltI (b := 9) (by omega) (by decide)).mp (i_nle.mp h29)
          have hv := ih hk
          refine WP.aln (pc := 32) hC dX6_again_32 rfl ?_
          refine WP.gf (pc := 33) hC dX6_again_33 fl_X6_22 (by decide) rfl rfl ?_
          refine WP.iln (pc := 36) hC dX6_again_36 rfl ?_
          refine WP.aln (pc := 37) hC dX6_again_37 rfl ?_
          refine WP.gf (pc := 38) hC dX6_again_38 fl_X6_53 (by decide) rfl rfl ?_
          refine WP.bipush (pc := 41) hC dX6_again_41 9 (by decide) ?_
          refine WP.iln (pc := 43) hC dX6_again_43 rfl ?_
          refine WP.imul (pc := 44) hC dX6_again_44 ?_
          refine WP.iln (pc := 45) hC dX6_again_45 rfl ?_
          refine WP.iadd (pc := 46) hC dX6_again_46 ?_
          rw [show (9 : Int32) * nI j = nI (9 * j) from pk_mul 9 j, nI_add]
          refine WP.ial (pc := 47) hC dX6_again_47 (9 * j + k) rfl (by omega) (by decide) rfl (by decide) ?_
          refine WP.ias (pc := 48) hC dX6_again_48 k rfl (by omega) (by decide) rfl rfl (by decide) ?_
          rw [upF_up2]
          have hu := ovl_up (f := F 5) (b := 0) (g := (fun k => F 15 (9 * j + k))) (n := k)
          rw [Nat.zero_add] at hu
          change WP _ _ _ _ _ _ _ _ (upF _ _ (upd _ _ ((fun k => F 15 (9 * j + k)) k))) _
          rw [hu]
          refine WP.iinc (lv' := [_, _, _]) (pc := 49) hC dX6_again_49 rfl (_ + 1) rfl rfl (by decide) rfl ?_
          refine WP.goto (pc := 52) hC dX6_again_52 26 (by decide) ?_
          rw [nIp1]
          exact hv
      refine WP.iconst (pc := 24) hC dX6_again_24 0 (by decide) ?_
      refine WP.isn (lv' := [_, _, _]) (pc := 25) hC dX6_again_25 rfl (by decide) rfl ?_
      have hz := loop 0 (by decide)
      rw [ovl_0, upF_self] at hz
      exact hz
    · refine WP.bipush (pc := 21) hC dX6_again_21 (-3) (by decide) ?_
      refine WP.iret (pc := 23) hC rfl dX6_again_23 ?_ ?_ ?_
      all_goals (first | rfl | (unfold agMR; rw [if_pos h7, ej, if_pos h18]) | (unfold agMF; rw [if_pos h7, ej, if_pos h18]) | (unfold agMR; rw [if_neg (by rw [h7]; decide)]) | (unfold agMF; rw [if_neg (by rw [h7]; decide)]))
  · rw [b2_0] at h7
    refine WP.iconst (pc := 10) hC dX6_again_10 (-1) (by decide) ?_
    refine WP.iret (pc := 11) hC rfl dX6_again_11 ?_ ?_ ?_
    all_goals (first | rfl | (unfold agMR; rw [if_pos h7, ej, if_pos h18]) | (unfold agMF; rw [if_pos h7, ej, if_pos h18]) | (unfold agMR; rw [if_neg (by rw [h7]; decide)]) | (unfold agMF; rw [if_neg (by rw [h7]; decide)]))
set_option maxHeartbeats 4000000 in
theorem k_X6_rightOn (l : Launch) (F : FF) (L : Int64) (v : Nat) (hv : v < 2) : CI l yX6_rightOn cX6_rightOn 5 (some .int) (rmx 1 21) wM [.ref 0, .int (nI v)] F L (nI (cntN (roB F v) 20)) F L := by
  refine mkI [some (.ref 0), some (.int (nI v)), none, none, none] 3 (by decide) rfl (Nat.le_of_ble_eq_true rfl) ?_
  intro x d hx hC
  subst hx
  have hC : Cx x cX6_rightOn 5 RX6 (some .int) (rmx 1 21) wM d := hC
  have loop : ∀ k, k ≤ 20 → ∀ a4 : Option Value, WP x 5 wM d (QI x wM d (nI (cntN (roB F v) 20)) F L) 4 [some (.ref 0), some (.int (nI v)), some (.int (nI (cntN (roB F v) k))), some (.int (nI k)), a4] [] F L := by
    refine loop_c (n := 20) (P := fun k => ∀ a4 : Option Value, WP x 5 wM d (QI x wM d (nI (cntN (roB F v) 20)) F L) 4 [some (.ref 0), some (.int (nI v)), some (.int (nI (cntN (roB F v) k))), some (.int (nI k)), a4] [] F L) ?_
    intro k hk0 ih a4
    refine WP.iln (pc := 4) hC dX6_rightOn_4 rfl ?_
    refine WP.bipush (pc := 5) hC dX6_rightOn_5 20 (by decide) ?_
    refine WP.icge (pc := 7) hC dX6_rightOn_7 70 (by decide) (fun h7 => ?_) (fun h7 => ?_)
    · have hk9 : k = 20 := by
        have := (nI_leI (a := 20) (by decide) (by omega)).mp h7
        omega
      subst hk9
      refine WP.iln (pc := 70) hC dX6_rightOn_70 rfl ?_
      refine WP.iret (pc := 71) hC rfl dX6_rightOn_71 ?_ ?_ ?_
      all_goals (rfl)
    · have hk : k < 20 := (nI_ltI (b := 20) (by omega) (by decide)).mp (i_nle.mp h7)
      have hv := ih hk
      refine WP.aln (pc := 10) hC dX6_rightOn_10 rfl ?_
      refine WP.gf (pc := 11) hC dX6_rightOn_11 fl_X6_19 (by decide) rfl rfl ?_
      refine WP.iln (pc := 14) hC dX6_rightOn_14 rfl ?_
      refine WP.iconst (pc := 15) hC dX6_rightOn_15 4 (by decide) ?_
      refine WP.irem (pc := 16) hC dX6_rightOn_16 (by decide) ?_
      rw [show nI k - nI k / 4 * 4 = nI (k % 4) from pk_rem (d := 4) (by omega) (by decide) (by decide)]
      refine WP.ial (pc := 17) hC dX6_rightOn_17 (k % 4) rfl (Nat.mod_lt _ (by decide)) (by decide) rfl (by decide) ?_
      refine WP.ifle (pc := 18) hC dX6_rightOn_18 25 (by decide) (fun h18 => ?_) (fun h18 => ?_)
      · refine WP.iconst (pc := 25) hC dX6_rightOn_25 0 (by decide) ?_
        refine WP.is (lv' := [_, _, _, _, _]) (pc := 26) hC dX6_rightOn_26 rfl (by decide) rfl ?_
        refine WP.iln (pc := 28) hC dX6_rightOn_28 rfl ?_
        refine WP.aln (pc := 29) hC dX6_rightOn_29 rfl ?_
        refine WP.gf (pc := 30) hC dX6_rightOn_30 fl_X6_22 (by decide) rfl rfl ?_
        refine WP.bipush (pc := 33) hC dX6_rightOn_33 9 (by decide) ?_
        refine WP.iln (pc := 35) hC dX6_rightOn_35 rfl ?_
        refine WP.imul (pc := 36) hC dX6_rightOn_36 ?_
        refine WP.il (pc := 37) hC dX6_rightOn_37 rfl ?_
        refine WP.ifeq (pc := 39) hC dX6_rightOn_39 46 (by decide) (fun h39 => ?_) (fun h39 => absurd h39 (by decide))
        refine WP.bipush (pc := 46) hC dX6_rightOn_46 6 (by decide) ?_
        refine WP.iadd (pc := 48) hC dX6_rightOn_48 ?_
        rw [show (9 : Int32) * nI v = nI (9 * v) from pk_mul 9 v]
        first | rw [show nI (9 * v) + 5 = nI (9 * v + 5) from nI_add _ 5] | rw [show nI (9 * v) + 6 = nI (9 * v + 6) from nI_add _ 6]
        refine WP.ial (pc := 49) hC dX6_rightOn_49 (9 * v + 6) rfl (by omega) (by decide) rfl (by decide) ?_
        refine WP.iln (pc := 50) hC dX6_rightOn_50 rfl ?_
        refine WP.callSI (pc := 51) hC dX6_rightOn_51 (k_X6_has _ F L wM _ _) ml_X6_115 rfl rfl (Nat.le_of_ble_eq_true rfl) ⟨by decide, by decide⟩ ?_
        first | rw [show hasT (F 5 (9 * v + 5)) (nI k) = roB F v k by unfold roB; rw [if_pos (i_nle.mp h18)]] | rw [show hasT (F 5 (9 * v + 6)) (nI k) = roB F v k by unfold roB; rw [if_neg (i_nlt.mpr h18)]]
        refine WP.ifeq (pc := 54) hC dX6_rightOn_54 61 (by decide) (fun h54 => ?_) (fun h54 => ?_)
        · rw [b2_0] at h54
          refine WP.iconst (pc := 61) hC dX6_rightOn_61 0 (by decide) ?_
          refine WP.iadd (pc := 62) hC dX6_rightOn_62 ?_
          first | rw [show nI (cntN (roB F v) k) + 1 = nI (cntN (roB F v) k + 1) from nI_add _ 1] | rw [Int32.add_zero]
          refine WP.isn (lv' := [_, _, _, _, _]) (pc := 63) hC dX6_rightOn_63 rfl (by decide) rfl ?_
          refine WP.iinc (lv' := [_, _, _, _, _]) (pc := 64) hC dX6_rightOn_64 rfl (_ + 1) rfl rfl (by decide) rfl ?_
          refine WP.goto (pc := 67) hC dX6_rightOn_67 4 (by decide) ?_
          rw [nIp1]
          first | (rw [cnt_t (f := roB F v) h54] at hv; exact hv _) | (rw [cnt_f (f := roB F v) h54] at hv; exact hv _)
        · rw [b2_n0] at h54
          refine WP.iconst (pc := 57) hC dX6_rightOn_57 1 (by decide) ?_
          refine WP.goto (pc := 58) hC dX6_rightOn_58 62 (by decide) ?_
          refine WP.iadd (pc := 62) hC dX6_rightOn_62 ?_
          first | rw [show nI (cntN (roB F v) k) + 1 = nI (cntN (roB F v) k + 1) from nI_add _ 1] | rw [Int32.add_zero]
          refine WP.isn (lv' := [_, _, _, _, _]) (pc := 63) hC dX6_rightOn_63 rfl (by decide) rfl ?_
          refine WP.iinc (lv' := [_, _, _, _, _]) (pc := 64) hC dX6_rightOn_64 rfl (_ + 1) rfl rfl (by decide) rfl ?_
          refine WP.goto (pc := 67) hC dX6_rightOn_67 4 (by decide) ?_
          rw [nIp1]
          first | (rw [cnt_t (f := roB F v) h54] at hv; exact hv _) | (rw [cnt_f (f := roB F v) h54] at hv; exact hv _)
      · refine WP.iconst (pc := 21) hC dX6_rightOn_21 1 (by decide) ?_
        refine WP.goto (pc := 22) hC dX6_rightOn_22 26 (by decide) ?_
        refine WP.is (lv' := [_, _, _, _, _]) (pc := 26) hC dX6_rightOn_26 rfl (by decide) rfl ?_
        refine WP.iln (pc := 28) hC dX6_rightOn_28 rfl ?_
        refine WP.aln (pc := 29) hC dX6_rightOn_29 rfl ?_
        refine WP.gf (pc := 30) hC dX6_rightOn_30 fl_X6_22 (by decide) rfl rfl ?_
        refine WP.bipush (pc := 33) hC dX6_rightOn_33 9 (by decide) ?_
        refine WP.iln (pc := 35) hC dX6_rightOn_35 rfl ?_
        refine WP.imul (pc := 36) hC dX6_rightOn_36 ?_
        refine WP.il (pc := 37) hC dX6_rightOn_37 rfl ?_
        refine WP.ifeq (pc := 39) hC dX6_rightOn_39 46 (by decide) (fun h39 => absurd h39 (by decide)) (fun h39 => ?_)
        refine WP.iconst (pc := 42) hC dX6_rightOn_42 5 (by decide) ?_
        refine WP.goto (pc := 43) hC dX6_rightOn_43 48 (by decide) ?_
        refine WP.iadd (pc := 48) hC dX6_rightOn_48 ?_
        rw [show (9 : Int32) * nI v = nI (9 * v) from pk_mul 9 v]
        first | rw [show nI (9 * v) + 5 = nI (9 * v + 5) from nI_add _ 5] | rw [show nI (9 * v) + 6 = nI (9 * v + 6) from nI_add _ 6]
        refine WP.ial (pc := 49) hC dX6_rightOn_49 (9 * v + 5) rfl (by omega) (by decide) rfl (by decide) ?_
        refine WP.iln (pc := 50) hC dX6_rightOn_50 rfl ?_
        refine WP.callSI (pc := 51) hC dX6_rightOn_51 (k_X6_has _ F L wM _ _) ml_X6_115 rfl rfl (Nat.le_of_ble_eq_true rfl) ⟨by decide, by decide⟩ ?_
        first | rw [show hasT (F 5 (9 * v + 5)) (nI k) = roB F v k by unfold roB; rw [if_pos (i_nle.mp h18)]] | rw [show hasT (F 5 (9 * v + 6)) (nI k) = roB F v k by unfold roB; rw [if_neg (i_nlt.mpr h18)]]
        refine WP.ifeq (pc := 54) hC dX6_rightOn_54 61 (by decide) (fun h54 => ?_) (fun h54 => ?_)
        · rw [b2_0] at h54
          refine WP.iconst (pc := 61) hC dX6_rightOn_61 0 (by decide) ?_
          refine WP.iadd (pc := 62) hC dX6_rightOn_62 ?_
          first | rw [show nI (cntN (roB F v) k) + 1 = nI (cntN (roB F v) k + 1) from nI_add _ 1] | rw [Int32.add_zero]
          refine WP.isn (lv' := [_, _, _, _, _]) (pc := 63) hC dX6_rightOn_63 rfl (by decide) rfl ?_
          refine WP.iinc (lv' := [_, _, _, _, _]) (pc := 64) hC dX6_rightOn_64 rfl (_ + 1) rfl rfl (by decide) rfl ?_
          refine WP.goto (pc := 67) hC dX6_rightOn_67 4 (by decide) ?_
          rw [nIp1]
          first | (rw [cnt_t (f := roB F v) h54] at hv; exact hv _) | (rw [cnt_f (f := roB F v) h54] at hv; exact hv _)
        · rw [b2_n0] at h54
          refine WP.iconst (pc := 57) hC dX6_rightOn_57 1 (by decide) ?_
          refine WP.goto (pc := 58) hC dX6_rightOn_58 62 (by decide) ?_
          refine WP.iadd (pc := 62) hC dX6_rightOn_62 ?_
          first | rw [show nI (cntN (roB F v) k) + 1 = nI (cntN (roB F v) k + 1) from nI_add _ 1] | rw [Int32.add_zero]
          refine WP.isn (lv' := [_, _, _, _, _]) (pc := 63) hC dX6_rightOn_63 rfl (by decide) rfl ?_
          refine WP.iinc (lv' := [_, _, _, _, _]) (pc := 64) hC dX6_rightOn_64 rfl (_ + 1) rfl rfl (by decide) rfl ?_
          refine WP.goto (pc := 67) hC dX6_rightOn_67 4 (by decide) ?_
          rw [nIp1]
          first | (rw [cnt_t (f := roB F v) h54] at hv; exact hv _) | (rw [cnt_f (f := roB F v) h54] at hv; exact hv _)
  refine WP.iconst (pc := 0) hC dX6_rightOn_0 0 (by decide) ?_
  refine WP.isn (lv' := [_, _, _, _, _]) (pc := 1) hC dX6_rightOn_1 rfl (by decide) rfl ?_
  refine WP.iconst (pc := 2) hC dX6_rightOn_2 0 (by decide) ?_
  refine WP.isn (lv' := [_, _, _, _, _]) (pc := 3) hC dX6_rightOn_3 rfl (by decide) rfl ?_
  exact loop 0 (by decide) _
set_option maxHeartbeats 4000000 in
theorem k_X6_count (l : Launch) (F : FF) (L : Int64) (w : Int32) : CI l yX6_count cX6_count 2 (some .int) (rmx 2 45) wM [.ref 0, .int w] F L (ctMR F w) F L := by
  refine mkI [some (.ref 0), some (.int w)] 0 (by decide) rfl (Nat.le_of_ble_eq_true rfl) ?_
  intro x d hx hC
  subst hx
  have hC : Cx x cX6_count 2 RX6 (some .int) (rmx 2 45) wM d := hC
  refine WP.iln (pc := 0) hC dX6_count_0 rfl ?_
  by_cases sw0 : w = 0
  · refine WP.tsIn (pc := 1) hC dX6_count_1 52 (by rw [sw0]; decide) (by rw [sw0]; decide) (off := 51) (by rw [sw0]; rfl) (by decide) ?_
    refine WP.aln (pc := 52) hC dX6_count_52 rfl ?_
    refine WP.gf (pc := 53) hC dX6_count_53 fl_X6_62 (by decide) rfl rfl ?_
    refine WP.iret (pc := 56) hC rfl dX6_count_56 ?_ ?_ ?_
    all_goals (first | rfl | (simp [ctMR, sw0]; done) | (simp [ctMR, sw1]; done) | (simp [ctMR, sw2]; done) | (simp [ctMR, sw3]; done) | (simp [ctMR, sw4]; done) | (simp [ctMR, sw5]; done) | (simp [ctMR, sw6]; done) | (simp [ctMR, sw7]; done) | (simp [ctMR, sw8]; done) | (simp [ctMR, sw0, sw1, sw2, sw3, sw4, sw5, sw6, sw7, sw8]; done))
  by_cases sw1 : w = 1
  · refine WP.tsIn (pc := 1) hC dX6_count_1 57 (by rw [sw1]; decide) (by rw [sw1]; decide) (off := 56) (by rw [sw1]; rfl) (by decide) ?_
    refine WP.aln (pc := 57) hC dX6_count_57 rfl ?_
    refine WP.gf (pc := 58) hC dX6_count_58 fl_X6_86 (by decide) rfl rfl ?_
    refine WP.iret (pc := 61) hC rfl dX6_count_61 ?_ ?_ ?_
    all_goals (first | rfl | (simp [ctMR, sw0]; done) | (simp [ctMR, sw1]; done) | (simp [ctMR, sw2]; done) | (simp [ctMR, sw3]; done) | (simp [ctMR, sw4]; done) | (simp [ctMR, sw5]; done) | (simp [ctMR, sw6]; done) | (simp [ctMR, sw7]; done) | (simp [ctMR, sw8]; done) | (simp [ctMR, sw0, sw1, sw2, sw3, sw4, sw5, sw6, sw7, sw8]; done))
  by_cases sw2 : w = 2
  · refine WP.tsIn (pc := 1) hC dX6_count_1 62 (by rw [sw2]; decide) (by rw [sw2]; decide) (off := 61) (by rw [sw2]; rfl) (by decide) ?_
    refine WP.aln (pc := 62) hC dX6_count_62 rfl ?_
    refine WP.gf (pc := 63) hC dX6_count_63 fl_X6_89 (by decide) rfl rfl ?_
    refine WP.iret (pc := 66) hC rfl dX6_count_66 ?_ ?_ ?_
    all_goals (first | rfl | (simp [ctMR, sw0]; done) | (simp [ctMR, sw1]; done) | (simp [ctMR, sw2]; done) | (simp [ctMR, sw3]; done) | (simp [ctMR, sw4]; done) | (simp [ctMR, sw5]; done) | (simp [ctMR, sw6]; done) | (simp [ctMR, sw7]; done) | (simp [ctMR, sw8]; done) | (simp [ctMR, sw0, sw1, sw2, sw3, sw4, sw5, sw6, sw7, sw8]; done))
  by_cases sw3 : w = 3
  · refine WP.tsIn (pc := 1) hC dX6_count_1 67 (by rw [sw3]; decide) (by rw [sw3]; decide) (off := 66) (by rw [sw3]; rfl) (by decide) ?_
    refine WP.aln (pc := 67) hC dX6_count_67 rfl ?_
    refine WP.gf (pc := 68) hC dX6_count_68 fl_X6_22 (by decide) rfl rfl ?_
    refine WP.bipush (pc := 71) hC dX6_count_71 7 (by decide) ?_
    refine WP.ial (pc := 73) hC dX6_count_73 7 rfl (by decide) (by decide) rfl (by decide) ?_
    refine WP.iret (pc := 74) hC rfl dX6_count_74 ?_ ?_ ?_
    all_goals (first | rfl | (simp [ctMR, sw0]; done) | (simp [ctMR, sw1]; done) | (simp [ctMR, sw2]; done) | (simp [ctMR, sw3]; done) | (simp [ctMR, sw4]; done) | (simp [ctMR, sw5]; done) | (simp [ctMR, sw6]; done) | (simp [ctMR, sw7]; done) | (simp [ctMR, sw8]; done) | (simp [ctMR, sw0, sw1, sw2, sw3, sw4, sw5, sw6, sw7, sw8]; done))
  by_cases sw4 : w = 4
  · refine WP.tsIn (pc := 1) hC dX6_count_1 75 (by rw [sw4]; decide) (by rw [sw4]; decide) (off := 74) (by rw [sw4]; rfl) (by decide) ?_
    refine WP.aln (pc := 75) hC dX6_count_75 rfl ?_
    refine WP.gf (pc := 76) hC dX6_count_76 fl_X6_22 (by decide) rfl rfl ?_
    refine WP.bipush (pc := 79) hC dX6_count_79 8 (by decide) ?_
    refine WP.ial (pc := 81) hC dX6_count_81 8 rfl (by decide) (by decide) rfl (by decide) ?_
    refine WP.iret (pc := 82) hC rfl dX6_count_82 ?_ ?_ ?_
    all_goals (first | rfl | (simp [ctMR, sw0]; done) | (simp [ctMR, sw1]; done) | (simp [ctMR, sw2]; done) | (simp [ctMR, sw3]; done) | (simp [ctMR, sw4]; done) | (simp [ctMR, sw5]; done) | (simp [ctMR, sw6]; done) | (simp [ctMR, sw7]; done) | (simp [ctMR, sw8]; done) | (simp [ctMR, sw0, sw1, sw2, sw3, sw4, sw5, sw6, sw7, sw8]; done))
  by_cases sw5 : w = 5
  · refine WP.tsIn (pc := 1) hC dX6_count_1 83 (by rw [sw5]; decide) (by rw [sw5]; decide) (off := 82) (by rw [sw5]; rfl) (by decide) ?_
    refine WP.aln (pc := 83) hC dX6_count_83 rfl ?_
    refine WP.gf (pc := 84) hC dX6_count_84 fl_X6_22 (by decide) rfl rfl ?_
    refine WP.iconst (pc := 87) hC dX6_count_87 5 (by decide) ?_
    refine WP.ial (pc := 88) hC dX6_count_88 5 rfl (by decide) (by decide) rfl (by decide) ?_
    refine WP.aln (pc := 89) hC dX6_count_89 rfl ?_
    refine WP.gf (pc := 90) hC dX6_count_90 fl_X6_22 (by decide) rfl rfl ?_
    refine WP.bipush (pc := 93) hC dX6_count_93 6 (by decide) ?_
    refine WP.ial (pc := 95) hC dX6_count_95 6 rfl (by decide) (by decide) rfl (by decide) ?_
    refine WP.ior (pc := 96) hC dX6_count_96 ?_
    refine WP.callSI (pc := 97) hC dX6_count_97 (k_X6_ones _ F L wM _) ml_X6_137 rfl rfl (Nat.le_of_ble_eq_true rfl) ⟨by decide, by decide⟩ ?_
    refine WP.iret (pc := 100) hC rfl dX6_count_100 ?_ ?_ ?_
    all_goals (first | rfl | (simp [ctMR, sw0]; done) | (simp [ctMR, sw1]; done) | (simp [ctMR, sw2]; done) | (simp [ctMR, sw3]; done) | (simp [ctMR, sw4]; done) | (simp [ctMR, sw5]; done) | (simp [ctMR, sw6]; done) | (simp [ctMR, sw7]; done) | (simp [ctMR, sw8]; done) | (simp [ctMR, sw0, sw1, sw2, sw3, sw4, sw5, sw6, sw7, sw8]; done))
  by_cases sw6 : w = 6
  · refine WP.tsIn (pc := 1) hC dX6_count_1 101 (by rw [sw6]; decide) (by rw [sw6]; decide) (off := 100) (by rw [sw6]; rfl) (by decide) ?_
    refine WP.aln (pc := 101) hC dX6_count_101 rfl ?_
    refine WP.iconst (pc := 102) hC dX6_count_102 0 (by decide) ?_
    refine WP.callVI (pc := 103) hC dX6_count_103 (k_X6_rightOn _ F L 0 (by decide)) ml_X6_205 rfl rfl (by decide) rfl (Nat.le_of_ble_eq_true rfl) ⟨by decide, by decide⟩ ?_
    refine WP.iret (pc := 106) hC rfl dX6_count_106 ?_ ?_ ?_
    all_goals (first | rfl | (simp [ctMR, sw0]; done) | (simp [ctMR, sw1]; done) | (simp [ctMR, sw2]; done) | (simp [ctMR, sw3]; done) | (simp [ctMR, sw4]; done) | (simp [ctMR, sw5]; done) | (simp [ctMR, sw6]; done) | (simp [ctMR, sw7]; done) | (simp [ctMR, sw8]; done) | (simp [ctMR, sw0, sw1, sw2, sw3, sw4, sw5, sw6, sw7, sw8]; done))
  by_cases sw7 : w = 7
  · refine WP.tsIn (pc := 1) hC dX6_count_1 107 (by rw [sw7]; decide) (by rw [sw7]; decide) (off := 106) (by rw [sw7]; rfl) (by decide) ?_
    refine WP.aln (pc := 107) hC dX6_count_107 rfl ?_
    refine WP.gf (pc := 108) hC dX6_count_108 fl_X6_92 (by decide) rfl rfl ?_
    refine WP.iret (pc := 111) hC rfl dX6_count_111 ?_ ?_ ?_
    all_goals (first | rfl | (simp [ctMR, sw0]; done) | (simp [ctMR, sw1]; done) | (simp [ctMR, sw2]; done) | (simp [ctMR, sw3]; done) | (simp [ctMR, sw4]; done) | (simp [ctMR, sw5]; done) | (simp [ctMR, sw6]; done) | (simp [ctMR, sw7]; done) | (simp [ctMR, sw8]; done) | (simp [ctMR, sw0, sw1, sw2, sw3, sw4, sw5, sw6, sw7, sw8]; done))
  by_cases sw8 : w = 8
  · refine WP.tsIn (pc := 1) hC dX6_count_1 112 (by rw [sw8]; decide) (by rw [sw8]; decide) (off := 111) (by rw [sw8]; rfl) (by decide) ?_
    refine WP.aln (pc := 112) hC dX6_count_112 rfl ?_
    refine WP.gf (pc := 113) hC dX6_count_113 fl_X6_154 (by decide) rfl rfl ?_
    refine WP.iret (pc := 116) hC rfl dX6_count_116 ?_ ?_ ?_
    all_goals (first | rfl | (simp [ctMR, sw0]; done) | (simp [ctMR, sw1]; done) | (simp [ctMR, sw2]; done) | (simp [ctMR, sw3]; done) | (simp [ctMR, sw4]; done) | (simp [ctMR, sw5]; done) | (simp [ctMR, sw6]; done) | (simp [ctMR, sw7]; done) | (simp [ctMR, sw8]; done) | (simp [ctMR, sw0, sw1, sw2, sw3, sw4, sw5, sw6, sw7, sw8]; done))
  refine WP.tsOut (pc := 1) hC dX6_count_1 117 (by have a0 := lv_neT sw0 (show (0 : Int32).toInt = 0 by decide); have a1 := lv_neT sw1 (show (1 : Int32).toInt = 1 by decide); have a2 := lv_neT sw2 (show (2 : Int32).toInt = 2 by decide); have a3 := lv_neT sw3 (show (3 : Int32).toInt = 3 by decide); have a4 := lv_neT sw4 (show (4 : Int32).toInt = 4 by decide); have a5 := lv_neT sw5 (show (5 : Int32).toInt = 5 by decide); have a6 := lv_neT sw6 (show (6 : Int32).toInt = 6 by decide); have a7 := lv_neT sw7 (show (7 : Int32).toInt = 7 by decide); have a8 := lv_neT sw8 (show (8 : Int32).toInt = 8 by decide); omega) (by decide) ?_
  refine WP.bipush (pc := 117) hC dX6_count_117 (-2) (by decide) ?_
  refine WP.iret (pc := 119) hC rfl dX6_count_119 ?_ ?_ ?_
  all_goals (first | rfl | (simp [ctMR, sw0]; done) | (simp [ctMR, sw1]; done) | (simp [ctMR, sw2]; done) | (simp [ctMR, sw3]; done) | (simp [ctMR, sw4]; done) | (simp [ctMR, sw5]; done) | (simp [ctMR, sw6]; done) | (simp [ctMR, sw7]; done) | (simp [ctMR, sw8]; done) | (simp [ctMR, sw0, sw1, sw2, sw3, sw4, sw5, sw6, sw7, sw8]; done))
set_option maxHeartbeats 4000000 in
theorem k_X6_seed (l : Launch) (F : FF) (L : Int64) (v : Int64) : CL l yX6_seed cX6_seed 5 (some .long) (rmx 0 0) wM [.ref 0, .long v] F L (L) F v := by
  refine mkL [some (.ref 0), some (.long v), none, none, none] 2 (by decide) rfl (Nat.le_of_ble_eq_true rfl) ?_
  intro x d hx hC
  subst hx
  have hC : Cx x cX6_seed 5 RX6 (some .long) (rmx 0 0) wM d := hC
  refine WP.aln (pc := 0) hC dX6_seed_0 rfl ?_
  refine WP.gf (pc := 1) hC dX6_seed_1 fl_X6_193 (by decide) rfl rfl ?_
  refine WP.lsn (lv' := [_, _, _, _, _]) (pc := 4) hC dX6_seed_4 rfl (by decide) rfl ?_
  refine WP.aln (pc := 5) hC dX6_seed_5 rfl ?_
  refine WP.lln (pc := 6) hC dX6_seed_6 rfl ?_
  refine WP.pfl (pc := 7) hC dX6_seed_7 cwM_L fp_X6_193 (by decide) rfl rfl (Nat.le_of_ble_eq_true rfl) ?_
  refine WP.lln (pc := 10) hC dX6_seed_10 rfl ?_
  refine WP.lret (pc := 11) hC rfl dX6_seed_11 ?_ ?_ ?_
  all_goals (rfl)
set_option maxHeartbeats 4000000 in
theorem k_X6_winters (l : Launch) (F : FF) (L : Int64) (nr ns : Nat) (m : Int32) (hM : MR F nr ns) : CI l yX6_winters cX6_winters 5 (some .int) (rmx 4 101) wM [.ref 0, .int m] F L (wmR F L nr ns m) (wmV F L nr ns m).1 (wmV F L nr ns m).2 := by
  refine mkI [some (.ref 0), some (.int m), none, none, none] 3 (by decide) rfl (Nat.le_of_ble_eq_true rfl) ?_
  intro x d hx hC
  subst hx
  have hC : Cx x cX6_winters 5 RX6 (some .int) (rmx 4 101) wM d := hC
  refine WP.iln (pc := 0) hC dX6_winters_0 rfl ?_
  refine WP.i2l (pc := 1) hC dX6_winters_1 ?_
  refine WP.lconst (pc := 2) hC dX6_winters_2 1 (by decide) ?_
  refine WP.ldc2 (pc := 3) hC dX6_winters_3 cs_X6_197 ?_
  refine WP.callSI (pc := 6) hC dX6_winters_6 (k_X6_in _ F L wM _ _ _) ml_X6_58 rfl rfl (Nat.le_of_ble_eq_true rfl) ⟨by decide, by decide⟩ ?_
  rw [in130]
  refine WP.ifne (pc := 9) hC dX6_winters_9 15 (by decide) (fun h9 => ?_) (fun h9 => ?_)
  · rw [b2_n0, Bool.and_eq_true, decide_eq_true_eq, decide_eq_true_eq] at h9
    obtain ⟨m, hm1, hm4, rfl⟩ := ixm (K := 30) h9.1 h9.2 (by decide)
    have hok : wnOk (nI m) = true := by unfold wnOk; simp [h9.1, h9.2]
    have em : ix (nI m) = m := ix_nI (by omega)
    have hr5 := hM.2.2.1
    have hs4 := hM.2.2.2
    have eV : wmV F L nr ns (nI m) = wmN nr ns m (lyM F) L := by unfold wmV; rw [if_pos hok, em]
    rw [show wmR F L nr ns (nI m) = nI (cntN (roB (wmV F L nr ns (nI m)).1 1) 20) by unfold wmR; rw [if_pos hok], eV]
    generalize hV : wmN nr ns m (lyM F) L = V
    have loop : ∀ (f k : Nat) (G : FF) (y : Int64), G 0 = F 0 → k + f = m → wmN nr ns f G y = V → ∀ a3 a4 : Option Value, WP x 5 wM d (QI x wM d (nI (cntN (roB V.1 1) 20)) V.1 V.2) 21 [some (.ref 0), some (.int (nI m)), some (.int (nI k)), a3, a4] [] G y := by
      intro f
      induction f with
      | zero =>
        intro k G y hG hk hv a3 a4
        refine WP.iln (pc := 21) hC dX6_winters_21 rfl ?_
        refine WP.iln (pc := 22) hC dX6_winters_22 rfl ?_
        refine WP.icge (pc := 23) hC dX6_winters_23 136 (by decide) (fun h23 => ?_) (fun h23 => absurd h23 (fun q => q (nI_le (by omega) (by omega))))
        refine WP.aln (pc := 136) hC dX6_winters_136 rfl ?_
        refine WP.iconst (pc := 137) hC dX6_winters_137 1 (by decide) ?_
        refine WP.callVI (pc := 138) hC dX6_winters_138 (k_X6_rightOn _ G y 1 (by decide)) ml_X6_205 rfl rfl (by decide) rfl (Nat.le_of_ble_eq_true rfl) ⟨by decide, by decide⟩ ?_
        refine WP.iret (pc := 141) hC rfl dX6_winters_141 ?_ ?_ ?_
        all_goals (first | rfl | (rw [← hv, wmN_0]))
      | succ f ih =>
        intro k G y hG hk hv a3 a4
        refine WP.iln (pc := 21) hC dX6_winters_21 rfl ?_
        refine WP.iln (pc := 22) hC dX6_winters_22 rfl ?_
        refine WP.icge (pc := 23) hC dX6_winters_23 136 (by decide) (fun h23 => absurd h23 (nI_ge (by omega) (by omega))) (fun h23 => ?_)
        refine WP.aln (pc := 26) hC dX6_winters_26 rfl ?_
        refine WP.aln (pc := 27) hC dX6_winters_27 rfl ?_
        refine WP.gf (pc := 28) hC dX6_winters_28 fl_X6_193 (by decide) rfl rfl ?_
        refine WP.ldc2 (pc := 31) hC dX6_winters_31 cs_X6_199 ?_
        refine WP.lmul (pc := 34) hC dX6_winters_34 ?_
        refine WP.ldc2 (pc := 35) hC dX6_winters_35 cs_X6_201 ?_
        refine WP.ladd (pc := 38) hC dX6_winters_38 ?_
        refine WP.pfl (pc := 39) hC dX6_winters_39 cwM_L fp_X6_193 (by decide) rfl rfl (Nat.le_of_ble_eq_true rfl) ?_
        refine WP.aln (pc := 42) hC dX6_winters_42 rfl ?_
        refine WP.gf (pc := 43) hC dX6_winters_43 fl_X6_193 (by decide) rfl rfl ?_
        refine WP.bipush (pc := 46) hC dX6_winters_46 33 (by decide) ?_
        refine WP.lushr (pc := 48) hC dX6_winters_48 ?_
        refine WP.ldc2 (pc := 49) hC dX6_winters_49 cs_X6_203 ?_
        refine WP.lrem (pc := 52) hC dX6_winters_52 (by decide) ?_
        refine WP.l2i (pc := 53) hC dX6_winters_53 ?_
        change WP _ _ _ _ _ _ _ (.int (wvI (sdN y)) :: _) _ _
        rw [(wv_ok (sdN y)).1]
        have hv22 := (wv_ok (sdN y)).2
        rw [wmN_s] at hv
        generalize wv (sdN y) = v at hv hv22 ⊢
        have n20 : nI v = 20 ↔ v = 20 := nI_eq (b := 20) (by omega) (by decide)
        have n19 : nI v ≤ 19 ↔ v ≤ 19 := nI_leI (b := 19) (by omega) (by decide)
        have hbs : ∀ q, q < 10 → ∀ n, n ≤ 5 → hasB (nI q) n = decide (q < n) := fun q hq n hn => by
          unfold hasB
          simp only [nI_ltI (show q < 2 ^ 31 by omega) (show n < 2 ^ 31 by omega), nI_pos' (show q < 2 ^ 31 by omega), decide_true, Bool.true_and]
        refine WP.isn (lv' := [_, _, _, _, _]) (pc := 54) hC dX6_winters_54 rfl (by decide) rfl ?_
        refine WP.iln (pc := 55) hC dX6_winters_55 rfl ?_
        refine WP.bipush (pc := 56) hC dX6_winters_56 19 (by decide) ?_
        refine WP.icle (pc := 58) hC dX6_winters_58 98 (by decide) (fun h58 => ?_) (fun h58 => ?_)
        · rw [n19] at h58
          refine WP.aln (pc := 98) hC dX6_winters_98 rfl ?_
          refine WP.iln (pc := 99) hC dX6_winters_99 rfl ?_
          refine WP.iconst (pc := 100) hC dX6_winters_100 4 (by decide) ?_
          refine WP.idiv (pc := 101) hC dX6_winters_101 (by decide) ?_
          rw [show nI v / 4 = nI (v / 4) from pk_div (d := 4) (by omega) (by decide) (by decide)]
          refine WP.callVI (pc := 102) hC dX6_winters_102 (k_X6_isReader _ G _ nr ns _ (hM.of hG)) ml_X6_111 rfl rfl (by decide) rfl (Nat.le_of_ble_eq_true rfl) ⟨by decide, by decide⟩ ?_
          rw [hbs _ (by omega) nr hr5]
          refine WP.ifeq (pc := 105) hC dX6_winters_105 130 (by decide) (fun h105 => ?_) (fun h105 => ?_)
          · first | (have hz0 := hw) | (rw [b2_0, decide_eq_false_iff_not] at h115; have hw : wiMF G nr ns v = G := (by unfold wiMF; rw [if_neg (by omega), if_neg (by omega), if_neg (fun z => h115 z.2)])) | (rw [b2_0, decide_eq_false_iff_not] at h105; have hw : wiMF G nr ns v = G := (by unfold wiMF; rw [if_neg (by omega), if_neg (by omega), if_neg (fun z => h105 z.1)]))
            refine WP.iinc (lv' := [_, _, _, _, _]) (pc := 130) hC dX6_winters_130 rfl (_ + 1) rfl rfl (by decide) rfl ?_
            refine WP.goto (pc := 133) hC dX6_winters_133 21 (by decide) ?_
            rw [nIp1]
            have hz := ih (k + 1) (wiMF G nr ns v) (sdN y) ((wiMF_row (by decide)).trans hG) (by omega) hv
            rw [hw] at hz
            exact hz _ _
          · rw [b2_n0, decide_eq_true_eq] at h105
            refine WP.aln (pc := 108) hC dX6_winters_108 rfl ?_
            refine WP.iln (pc := 109) hC dX6_winters_109 rfl ?_
            refine WP.iconst (pc := 110) hC dX6_winters_110 4 (by decide) ?_
            refine WP.irem (pc := 111) hC dX6_winters_111 (by decide) ?_
            rw [show nI v - nI v / 4 * 4 = nI (v % 4) from pk_rem (d := 4) (by omega) (by decide) (by decide)]
            refine WP.callVI (pc := 112) hC dX6_winters_112 (k_X6_isSample _ G _ nr ns _ (hM.of hG)) ml_X6_118 rfl rfl (by decide) rfl (Nat.le_of_ble_eq_true rfl) ⟨by decide, by decide⟩ ?_
            rw [hbs _ (by omega) ns (by omega)]
            refine WP.ifeq (pc := 115) hC dX6_winters_115 130 (by decide) (fun h115 => ?_) (fun h115 => ?_)
            · first | (have hz0 := hw) | (rw [b2_0, decide_eq_false_iff_not] at h115; have hw : wiMF G nr ns v = G := (by unfold wiMF; rw [if_neg (by omega), if_neg (by omega), if_neg (fun z => h115 z.2)])) | (rw [b2_0, decide_eq_false_iff_not] at h105; have hw : wiMF G nr ns v = G := (by unfold wiMF; rw [if_neg (by omega), if_neg (by omega), if_neg (fun z => h105 z.1)]))
              refine WP.iinc (lv' := [_, _, _, _, _]) (pc := 130) hC dX6_winters_130 rfl (_ + 1) rfl rfl (by decide) rfl ?_
              refine WP.goto (pc := 133) hC dX6_winters_133 21 (by decide) ?_
              rw [nIp1]
              have hz := ih (k + 1) (wiMF G nr ns v) (sdN y) ((wiMF_row (by decide)).trans hG) (by omega) hv
              rw [hw] at hz
              exact hz _ _
            · rw [b2_n0, decide_eq_true_eq] at h115
              have hw : wiMF G nr ns v = rdM G 1 (v / 4) (v % 4) (sayM G 1 (v % 4) (v / 4)) := by unfold wiMF; rw [if_neg (by omega), if_neg (by omega), if_pos ⟨h105, h115⟩]
              refine WP.aln (pc := 118) hC dX6_winters_118 rfl ?_
              refine WP.iconst (pc := 119) hC dX6_winters_119 1 (by decide) ?_
              refine WP.iln (pc := 120) hC dX6_winters_120 rfl ?_
              refine WP.iconst (pc := 121) hC dX6_winters_121 4 (by decide) ?_
              refine WP.idiv (pc := 122) hC dX6_winters_122 (by decide) ?_
              refine WP.iln (pc := 123) hC dX6_winters_123 rfl ?_
              refine WP.iconst (pc := 124) hC dX6_winters_124 4 (by decide) ?_
              refine WP.irem (pc := 125) hC dX6_winters_125 (by decide) ?_
              rw [show nI v - nI v / 4 * 4 = nI (v % 4) from pk_rem (d := 4) (by omega) (by decide) (by decide), show nI v / 4 = nI (v / 4) from pk_div (d := 4) (by omega) (by decide) (by decide)]
              refine WP.callVI (pc := 126) hC dX6_winters_126 (k_X6_readOn _ G _ 1 (v / 4) (v % 4) (by decide) (by omega) (by omega)) ml_X6_134 rfl rfl (by decide) rfl (Nat.le_of_ble_eq_true rfl) ⟨by decide, by decide⟩ ?_
              refine WP.pop (pc := 129) hC dX6_winters_129 rfl ?_
              first | (have hz0 := hw) | (rw [b2_0, decide_eq_false_iff_not] at h115; have hw : wiMF G nr ns v = G := (by unfold wiMF; rw [if_neg (by omega), if_neg (by omega), if_neg (fun z => h115 z.2)])) | (rw [b2_0, decide_eq_false_iff_not] at h105; have hw : wiMF G nr ns v = G := (by unfold wiMF; rw [if_neg (by omega), if_neg (by omega), if_neg (fun z => h105 z.1)]))
              refine WP.iinc (lv' := [_, _, _, _, _]) (pc := 130) hC dX6_winters_130 rfl (_ + 1) rfl rfl (by decide) rfl ?_
              refine WP.goto (pc := 133) hC dX6_winters_133 21 (by decide) ?_
              rw [nIp1]
              have hz := ih (k + 1) (wiMF G nr ns v) (sdN y) ((wiMF_row (by decide)).trans hG) (by omega) hv
              rw [hw] at hz
              exact hz _ _
        · have h58 : 20 ≤ v := by
            have := mt n19.mpr h58
            omega
          refine WP.bipush (pc := 61) hC dX6_winters_61 9 (by decide) ?_
          refine WP.iln (pc := 63) hC dX6_winters_63 rfl ?_
          refine WP.bipush (pc := 64) hC dX6_winters_64 20 (by decide) ?_
          refine WP.icne (pc := 66) hC dX6_winters_66 74 (by decide) (fun h66 => ?_) (fun h66 => ?_)
          · have h66 : v = 21 := by
              have := mt n20.mpr h66
              omega
            have hw : wiMF G nr ns v = up2 G 5 17 (1 - G 5 17) := by unfold wiMF; rw [if_neg (by omega), if_pos h66]
            refine WP.bipush (pc := 74) hC dX6_winters_74 8 (by decide) ?_
            refine WP.iadd (pc := 76) hC dX6_winters_76 ?_
            refine WP.is (lv' := [_, _, _, _, _]) (pc := 77) hC dX6_winters_77 rfl (by decide) rfl ?_
            refine WP.aln (pc := 79) hC dX6_winters_79 rfl ?_
            refine WP.gf (pc := 80) hC dX6_winters_80 fl_X6_22 (by decide) rfl rfl ?_
            refine WP.il (pc := 83) hC dX6_winters_83 rfl ?_
            refine WP.iconst (pc := 85) hC dX6_winters_85 1 (by decide) ?_
            refine WP.aln (pc := 86) hC dX6_winters_86 rfl ?_
            refine WP.gf (pc := 87) hC dX6_winters_87 fl_X6_22 (by decide) rfl rfl ?_
            refine WP.il (pc := 90) hC dX6_winters_90 rfl ?_
            refine WP.ial (pc := 92) hC dX6_winters_92 17 rfl (by decide) (by decide) rfl (by decide) ?_
            refine WP.isub (pc := 93) hC dX6_winters_93 ?_
            refine WP.ias (pc := 94) hC dX6_winters_94 17 rfl (by decide) (by decide) rfl rfl (by decide) ?_
            refine WP.goto (pc := 95) hC dX6_winters_95 130 (by decide) ?_
            first | (have hz0 := hw) | (rw [b2_0, decide_eq_false_iff_not] at h115; have hw : wiMF G nr ns v = G := (by unfold wiMF; rw [if_neg (by omega), if_neg (by omega), if_neg (fun z => h115 z.2)])) | (rw [b2_0, decide_eq_false_iff_not] at h105; have hw : wiMF G nr ns v = G := (by unfold wiMF; rw [if_neg (by omega), if_neg (by omega), if_neg (fun z => h105 z.1)]))
            refine WP.iinc (lv' := [_, _, _, _, _]) (pc := 130) hC dX6_winters_130 rfl (_ + 1) rfl rfl (by decide) rfl ?_
            refine WP.goto (pc := 133) hC dX6_winters_133 21 (by decide) ?_
            rw [nIp1]
            have hz := ih (k + 1) (wiMF G nr ns v) (sdN y) ((wiMF_row (by decide)).trans hG) (by omega) hv
            rw [hw] at hz
            exact hz _ _
          · rw [n20] at h66
            have hw : wiMF G nr ns v = up2 G 5 16 (1 - G 5 16) := by unfold wiMF; rw [if_pos h66]
            refine WP.bipush (pc := 69) hC dX6_winters_69 7 (by decide) ?_
            refine WP.goto (pc := 71) hC dX6_winters_71 76 (by decide) ?_
            refine WP.iadd (pc := 76) hC dX6_winters_76 ?_
            refine WP.is (lv' := [_, _, _, _, _]) (pc := 77) hC dX6_winters_77 rfl (by decide) rfl ?_
            refine WP.aln (pc := 79) hC dX6_winters_79 rfl ?_
            refine WP.gf (pc := 80) hC dX6_winters_80 fl_X6_22 (by decide) rfl rfl ?_
            refine WP.il (pc := 83) hC dX6_winters_83 rfl ?_
            refine WP.iconst (pc := 85) hC dX6_winters_85 1 (by decide) ?_
            refine WP.aln (pc := 86) hC dX6_winters_86 rfl ?_
            refine WP.gf (pc := 87) hC dX6_winters_87 fl_X6_22 (by decide) rfl rfl ?_
            refine WP.il (pc := 90) hC dX6_winters_90 rfl ?_
            refine WP.ial (pc := 92) hC dX6_winters_92 16 rfl (by decide) (by decide) rfl (by decide) ?_
            refine WP.isub (pc := 93) hC dX6_winters_93 ?_
            refine WP.ias (pc := 94) hC dX6_winters_94 16 rfl (by decide) (by decide) rfl rfl (by decide) ?_
            refine WP.goto (pc := 95) hC dX6_winters_95 130 (by decide) ?_
            first | (have hz0 := hw) | (rw [b2_0, decide_eq_false_iff_not] at h115; have hw : wiMF G nr ns v = G := (by unfold wiMF; rw [if_neg (by omega), if_neg (by omega), if_neg (fun z => h115 z.2)])) | (rw [b2_0, decide_eq_false_iff_not] at h105; have hw : wiMF G nr ns v = G := (by unfold wiMF; rw [if_neg (by omega), if_neg (by omega), if_neg (fun z => h105 z.1)]))
            refine WP.iinc (lv' := [_, _, _, _, _]) (pc := 130) hC dX6_winters_130 rfl (_ + 1) rfl rfl (by decide) rfl ?_
            refine WP.goto (pc := 133) hC dX6_winters_133 21 (by decide) ?_
            rw [nIp1]
            have hz := ih (k + 1) (wiMF G nr ns v) (sdN y) ((wiMF_row (by decide)).trans hG) (by omega) hv
            rw [hw] at hz
            exact hz _ _
    refine WP.aln (pc := 15) hC dX6_winters_15 rfl ?_
    refine WP.callVV (pc := 16) hC dX6_winters_16 (k_X6_layTrial _ F L) ml_X6_148 rfl rfl (by decide) rfl (Nat.le_of_ble_eq_true rfl) ⟨by decide, by decide⟩ ?_
    refine WP.iconst (pc := 19) hC dX6_winters_19 0 (by decide) ?_
    refine WP.isn (lv' := [_, _, _, _, _]) (pc := 20) hC dX6_winters_20 rfl (by decide) rfl ?_
    exact loop m 0 (lyM F) _ rfl (by omega) hV _ _
  · refine WP.bipush (pc := 12) hC dX6_winters_12 (-2) (by decide) ?_
    refine WP.iret (pc := 14) hC rfl dX6_winters_14 ?_ ?_ ?_
    all_goals (first | rfl | (unfold wmR; refine (if_neg ?_).symm; unfold wnOk; rw [Bool.and_eq_true, decide_eq_true_eq, decide_eq_true_eq]; rintro ⟨q1, q2⟩; rw [b2_0, Bool.and_eq_false_iff, decide_eq_false_iff_not, decide_eq_false_iff_not] at h9; rcases h9 with z | z; exact z q1; exact z q2) | (unfold wmV; rw [if_neg]; unfold wnOk; rw [Bool.and_eq_true, decide_eq_true_eq, decide_eq_true_eq]; rintro ⟨q1, q2⟩; rw [b2_0, Bool.and_eq_false_iff, decide_eq_false_iff_not, decide_eq_false_iff_not] at h9; rcases h9 with z | z; exact z q1; exact z q2))
