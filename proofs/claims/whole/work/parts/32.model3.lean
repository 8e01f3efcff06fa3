/-! ===== NewRaysModel: cover, wrong, judge, heard ===== -/
theorem in14 (n : Int32) : inL n.toInt64 1 4 = (decide (1 ≤ n) && decide (n ≤ 4)) := by have h := inL_w n 1 4; rwa [show (1 : Int32).toInt64 = 1 by decide, show (4 : Int32).toInt64 = 4 by decide] at h
theorem in16 (n : Int32) : inL n.toInt64 1 6 = (decide (1 ≤ n) && decide (n ≤ 6)) := by have h := inL_w n 1 6; rwa [show (1 : Int32).toInt64 = 1 by decide, show (6 : Int32).toInt64 = 6 by decide] at h
theorem in130 (n : Int32) : inL n.toInt64 1 30 = (decide (1 ≤ n) && decide (n ≤ 30)) := by have h := inL_w n 1 30; rwa [show (1 : Int32).toInt64 = 1 by decide, show (30 : Int32).toInt64 = 30 by decide] at h
theorem in01L (n : Int32) : inL n.toInt64 0 1 = (decide (0 ≤ n) && decide (n ≤ 1)) := by have h := inL_w n 0 1; rwa [show (1 : Int32).toInt64 = 1 by decide, show (0 : Int32).toInt64 = 0 by decide] at h
theorem in05 (n : Int32) : inL n.toInt64 0 5 = (decide (0 ≤ n) && decide (n ≤ 5)) := by have h := inL_w n 0 5; rwa [show (5 : Int32).toInt64 = 5 by decide, show (0 : Int32).toInt64 = 0 by decide] at h
theorem in010 (n : Int32) : inL n.toInt64 0 10 = (decide (0 ≤ n) && decide (n ≤ 10)) := by have h := inL_w n 0 10; rwa [show (10 : Int32).toInt64 = 10 by decide, show (0 : Int32).toInt64 = 0 by decide] at h
theorem in0255 (n : Int32) : inL n.toInt64 0 255 = (decide (0 ≤ n) && decide (n ≤ 255)) := by have h := inL_w n 0 255; rwa [show (255 : Int32).toInt64 = 255 by decide, show (0 : Int32).toInt64 = 0 by decide] at h
theorem in0p {r : Int32} {K : Nat} (h1 : 1 ≤ K) (h2 : K < 2 ^ 31) : inL r.toInt64 0 (nI K - 1).toInt64 = (decide (0 ≤ r) && decide (r < nI K)) := by
  have h := inL_w r 0 (nI K - 1)
  rw [show (0 : Int32).toInt64 = 0 by decide] at h
  rw [h]
  by_cases h0 : 0 ≤ r
  · simp only [h0, decide_true, Bool.true_and]
    refine decide_eq_decide.mpr ?_
    obtain ⟨j, hj, rfl⟩ := nI_of (x := r) (i_nlt.mpr h0)
    rw [nI_ltI hj h2, show nI K - 1 = nI (K - 1) from pk_sub (b := 1) h1, nI_leI hj (by omega)]
    omega
  · simp [h0]
theorem hun : ∀ f, f < 5 → 100 ^ f = 10 ^ (2 * f) ∧ 0 < 100 ^ f ∧ 100 ^ f < 2 ^ 31 ∧ ¬ nI (100 ^ f) = 0 := by decide
def tyB (G : FF) (nr ns a c : Nat) : Bool := if a = 0 then decide (c < 2) else if a = 6 then decide (c < nr) && decide (0 < G 5 (9 + c)) else decide (a < 6) && ((decide (a - 1 < nr) && decide (c < ns)) && (!(sayM G 1 c (a - 1)) || decide (0 < G 4 c)))
def plM (c : Nat) : Nat := if c = 0 then 16 else 17
def tyF (G : FF) (nr ns a c : Nat) : FF := if a = 0 then up2 G 5 (plM c) (1 - G 5 (plM c)) else if a = 6 then (if c < nr ∧ 0 < G 5 (9 + c) then up2 G 5 (9 + c) 0 else G) else if a < 6 ∧ a - 1 < nr ∧ c < ns then rdM G 1 (a - 1) c (sayM G 1 c (a - 1)) else G
theorem rdM_row {G : FF} {v i j a : Nat} {y : Bool} (h : a ≠ 5) : rdM G v i j y a = G a := by
  unfold rdM
  rw [up2_row h, up2_row h, up2_row h]
theorem tyF_row {G : FF} {nr ns a c k : Nat} (h : k ≠ 5) : tyF G nr ns a c k = G k := by
  unfold tyF
  (repeat' split) <;> first | rfl | exact up2_row h | exact rdM_row h
def tw2 (w f : Nat) : Nat := w / 100 ^ f % 100
theorem tw2_lt (w f : Nat) : tw2 w f / 10 < 10 ∧ tw2 w f % 10 < 10 := by
  have : tw2 w f < 100 := Nat.mod_lt _ (by decide)
  omega
def jdM (nr ns w : Nat) : Nat → Nat → FF → Int32 × FF
  | 0, _, G => (-9, G)
  | f + 1, k, G => if tyB G nr ns (tw2 w f / 10) (tw2 w f % 10) = true then jdM nr ns w f (k + 1) (tyF G nr ns (tw2 w f / 10) (tw2 w f % 10)) else (nI k, tyF G nr ns (tw2 w f / 10) (tw2 w f % 10))
def jdMR (G : FF) (nr ns : Nat) (n row : Int32) : Int32 := if jdOk n row = true then (jdM nr ns (ix row) (ix n) 0 (lyM G)).1 else -2
def jdMF (G : FF) (nr ns : Nat) (n row : Int32) : FF := if jdOk n row = true then (jdM nr ns (ix row) (ix n) 0 (lyM G)).2 else G
def MH (G : FF) (h : Nat) : Prop := G 0 18 = nI h ∧ h ≤ 6
def heMR (G : FF) (nr ns h : Nat) (r s p y : Int32) : Int32 := if chk r nr s ns = true then (if 0 ≤ p ∧ p ≤ 1 ∧ 0 ≤ y ∧ y ≤ 1 then (if h < 6 then G 0 18 + 1 else -4) else -2) else -1
def heMF (G : FF) (nr ns h : Nat) (r s p y : Int32) : FF := if chk r nr s ns = true then (if 0 ≤ p ∧ p ≤ 1 ∧ 0 ≤ y ∧ y ≤ 1 then (if h < 6 then up2 (up2 (up2 (up2 (up2 G 10 h r) 11 h s) 12 h p) 13 h y) 0 18 (G 0 18 + 1) else G) else G) else G
def okHM (G : FF) (ns i : Nat) (e : Int32) (j : Nat) : Bool := !(decide (G 10 j = nI i) && hasB (G 11 j) ns) || (saysB (G 3 i) (G 2 i) (seesM (G 3 i) e (lits (tru (G 12 j)) (G 4 (G 11 j).toNatClampNeg)) 0 true) == tru (G 13 j))
def agM (G : FF) (ns i : Nat) (e : Int32) : Nat → Bool
  | 0 => true
  | m + 1 => agM G ns i e m && okHM G ns i e m
def exMR (G : FF) (nr ns h : Nat) (r : Int32) : Int32 := if hasB r nr = true then nI (bits (fun e => agM G ns (ix r) (nI e) h) 10) else -1

set_option maxHeartbeats 4000000 in
theorem k_X6_covers (l : Launch) (F : FF) (L : Int64) (nr ns q : Nat) (hM : MR F nr ns) : CI l yX6_covers cX6_covers 5 (some .boolean) (rmx 4 98) wM [.ref 0, .int (nI q)] F L (b2 (allN (cvS F nr q) ns)) F L := by
  refine mkI [some (.ref 0), some (.int (nI q)), none, none, none] 3 (by decide) rfl (Nat.le_of_ble_eq_true rfl) ?_
  intro x d hx hC
  subst hx
  have hC : Cx x cX6_covers 5 RX6 (some .boolean) (rmx 4 98) wM d := hC
  have hs4 := hM.2.2.2
  have loop : ∀ s, s ≤ ns → ∀ a4 : Option Value, WP x 5 wM d (QI x wM d (b2 (allN (cvS F nr q) ns)) F L) 4 [some (.ref 0), some (.int (nI q)), some (.int (b2 (allN (cvS F nr q) s))), some (.int (nI s)), a4] [] F L := by
    refine loop_c (n := ns) (P := fun s => ∀ a4 : Option Value, WP x 5 wM d (QI x wM d (b2 (allN (cvS F nr q) ns)) F L) 4 [some (.ref 0), some (.int (nI q)), some (.int (b2 (allN (cvS F nr q) s))), some (.int (nI s)), a4] [] F L) ?_
    intro s hs0 ih a4
    refine WP.iln (pc := 4) hC dX6_covers_4 rfl ?_
    refine WP.aln (pc := 5) hC dX6_covers_5 rfl ?_
    refine WP.gf (pc := 6) hC dX6_covers_6 fl_X6_89 (by decide) rfl rfl ?_
    refine WP.icge (pc := 9) hC dX6_covers_9 64 (by decide) (fun h9 => ?_) (fun h9 => ?_)
    · have h_s : s = ns := by
        have h9 := h9
        rw [hM.2.1] at h9
        have := (nI_leI (by omega) (by omega)).mp h9
        omega
      subst h_s
      refine WP.iln (pc := 64) hC dX6_covers_64 rfl ?_
      refine WP.zret (pc := 65) hC rfl (by first | exact Or.inl rfl | exact Or.inr rfl | exact b2_01 _) dX6_covers_65 ?_ ?_ ?_
      all_goals (rfl)
    · have h_s : s < ns := by
        have h9 := h9
        rw [hM.2.1] at h9
        exact (nI_ltI (by omega) (by omega)).mp (i_nle.mp h9)
      have hv := ih h_s
      refine WP.aln (pc := 12) hC dX6_covers_12 rfl ?_
      refine WP.iln (pc := 13) hC dX6_covers_13 rfl ?_
      refine WP.callVI (pc := 14) hC dX6_covers_14 (k_X6_yesOn _ F L nr ns s hM (by omega)) ml_X6_121 rfl rfl (by decide) rfl (Nat.le_of_ble_eq_true rfl) ⟨by decide, by decide⟩ ?_
      refine WP.iln (pc := 17) hC dX6_covers_17 rfl ?_
      refine WP.iand (pc := 18) hC dX6_covers_18 ?_
      refine WP.is (lv' := [_, _, _, _, _]) (pc := 19) hC dX6_covers_19 rfl (by decide) rfl ?_
      refine WP.iln (pc := 21) hC dX6_covers_21 rfl ?_
      refine WP.ifeq (pc := 22) hC dX6_covers_22 56 (by decide) (fun h22 => ?_) (fun h22 => ?_)
      · have ho : b2 (allN (cvS F nr q) (s + 1)) = 0 := by
          first | (rw [b2_0] at h22; rw [allN, h22]; rfl) | (rw [b2_n0] at h22; rw [allN, h22]; unfold cvS; first | (have h41 := i_nlt.mpr h41; simp [b2, h27, h41]; done) | (have h41 := i_nle.mp h41; simp [b2, h27, h41]; done) | exact absurd rfl h49)
        refine WP.iconst (pc := 56) hC dX6_covers_56 0 (by decide) ?_
        refine WP.isn (lv' := [_, _, _, _, _]) (pc := 57) hC dX6_covers_57 rfl (by decide) rfl ?_
        refine WP.iinc (lv' := [_, _, _, _, _]) (pc := 58) hC dX6_covers_58 rfl (_ + 1) rfl rfl (by decide) rfl ?_
        refine WP.goto (pc := 61) hC dX6_covers_61 4 (by decide) ?_
        rw [nIp1]
        rw [ho] at hv
        exact hv _
      · refine WP.il (pc := 25) hC dX6_covers_25 rfl ?_
        refine WP.ifeq (pc := 27) hC dX6_covers_27 34 (by decide) (fun h27 => ?_) (fun h27 => ?_)
        · refine WP.iconst (pc := 34) hC dX6_covers_34 0 (by decide) ?_
          refine WP.aln (pc := 35) hC dX6_covers_35 rfl ?_
          refine WP.gf (pc := 36) hC dX6_covers_36 fl_X6_19 (by decide) rfl rfl ?_
          refine WP.iln (pc := 39) hC dX6_covers_39 rfl ?_
          refine WP.ial (pc := 40) hC dX6_covers_40 s rfl (by omega) (by decide) rfl (by decide) ?_
          refine WP.ifle (pc := 41) hC dX6_covers_41 48 (by decide) (fun h41 => ?_) (fun h41 => ?_)
          · refine WP.iconst (pc := 48) hC dX6_covers_48 0 (by decide) ?_
            refine WP.icne (pc := 49) hC dX6_covers_49 56 (by decide) (fun h49 => absurd h49 (by decide)) (fun h49 => ?_)
            have ho : b2 (allN (cvS F nr q) (s + 1)) = 1 := by
              rw [b2_n0] at h22
              rw [allN, h22]
              unfold cvS
              first | (have h41 := i_nlt.mpr h41; simp [b2, h27, h41]; done) | (have h41 := i_nle.mp h41; simp [b2, h27, h41]; done)
            refine WP.iconst (pc := 52) hC dX6_covers_52 1 (by decide) ?_
            refine WP.goto (pc := 53) hC dX6_covers_53 57 (by decide) ?_
            refine WP.isn (lv' := [_, _, _, _, _]) (pc := 57) hC dX6_covers_57 rfl (by decide) rfl ?_
            refine WP.iinc (lv' := [_, _, _, _, _]) (pc := 58) hC dX6_covers_58 rfl (_ + 1) rfl rfl (by decide) rfl ?_
            refine WP.goto (pc := 61) hC dX6_covers_61 4 (by decide) ?_
            rw [nIp1]
            rw [ho] at hv
            exact hv _
          · refine WP.iconst (pc := 44) hC dX6_covers_44 1 (by decide) ?_
            refine WP.goto (pc := 45) hC dX6_covers_45 49 (by decide) ?_
            refine WP.icne (pc := 49) hC dX6_covers_49 56 (by decide) (fun h49 => ?_) (fun h49 => absurd h49 (by decide))
            have ho : b2 (allN (cvS F nr q) (s + 1)) = 0 := by
              first | (rw [b2_0] at h22; rw [allN, h22]; rfl) | (rw [b2_n0] at h22; rw [allN, h22]; unfold cvS; first | (have h41 := i_nlt.mpr h41; simp [b2, h27, h41]; done) | (have h41 := i_nle.mp h41; simp [b2, h27, h41]; done) | exact absurd rfl h49)
            refine WP.iconst (pc := 56) hC dX6_covers_56 0 (by decide) ?_
            refine WP.isn (lv' := [_, _, _, _, _]) (pc := 57) hC dX6_covers_57 rfl (by decide) rfl ?_
            refine WP.iinc (lv' := [_, _, _, _, _]) (pc := 58) hC dX6_covers_58 rfl (_ + 1) rfl rfl (by decide) rfl ?_
            refine WP.goto (pc := 61) hC dX6_covers_61 4 (by decide) ?_
            rw [nIp1]
            rw [ho] at hv
            exact hv _
        · refine WP.iconst (pc := 30) hC dX6_covers_30 1 (by decide) ?_
          refine WP.goto (pc := 31) hC dX6_covers_31 35 (by decide) ?_
          refine WP.aln (pc := 35) hC dX6_covers_35 rfl ?_
          refine WP.gf (pc := 36) hC dX6_covers_36 fl_X6_19 (by decide) rfl rfl ?_
          refine WP.iln (pc := 39) hC dX6_covers_39 rfl ?_
          refine WP.ial (pc := 40) hC dX6_covers_40 s rfl (by omega) (by decide) rfl (by decide) ?_
          refine WP.ifle (pc := 41) hC dX6_covers_41 48 (by decide) (fun h41 => ?_) (fun h41 => ?_)
          · refine WP.iconst (pc := 48) hC dX6_covers_48 0 (by decide) ?_
            refine WP.icne (pc := 49) hC dX6_covers_49 56 (by decide) (fun h49 => ?_) (fun h49 => absurd h49 (by decide))
            have ho : b2 (allN (cvS F nr q) (s + 1)) = 0 := by
              first | (rw [b2_0] at h22; rw [allN, h22]; rfl) | (rw [b2_n0] at h22; rw [allN, h22]; unfold cvS; first | (have h41 := i_nlt.mpr h41; simp [b2, h27, h41]; done) | (have h41 := i_nle.mp h41; simp [b2, h27, h41]; done) | exact absurd rfl h49)
            refine WP.iconst (pc := 56) hC dX6_covers_56 0 (by decide) ?_
            refine WP.isn (lv' := [_, _, _, _, _]) (pc := 57) hC dX6_covers_57 rfl (by decide) rfl ?_
            refine WP.iinc (lv' := [_, _, _, _, _]) (pc := 58) hC dX6_covers_58 rfl (_ + 1) rfl rfl (by decide) rfl ?_
            refine WP.goto (pc := 61) hC dX6_covers_61 4 (by decide) ?_
            rw [nIp1]
            rw [ho] at hv
            exact hv _
          · refine WP.iconst (pc := 44) hC dX6_covers_44 1 (by decide) ?_
            refine WP.goto (pc := 45) hC dX6_covers_45 49 (by decide) ?_
            refine WP.icne (pc := 49) hC dX6_covers_49 56 (by decide) (fun h49 => absurd h49 (by decide)) (fun h49 => ?_)
            have ho : b2 (allN (cvS F nr q) (s + 1)) = 1 := by
              rw [b2_n0] at h22
              rw [allN, h22]
              unfold cvS
              first | (have h41 := i_nlt.mpr h41; simp [b2, h27, h41]; done) | (have h41 := i_nle.mp h41; simp [b2, h27, h41]; done)
            refine WP.iconst (pc := 52) hC dX6_covers_52 1 (by decide) ?_
            refine WP.goto (pc := 53) hC dX6_covers_53 57 (by decide) ?_
            refine WP.isn (lv' := [_, _, _, _, _]) (pc := 57) hC dX6_covers_57 rfl (by decide) rfl ?_
            refine WP.iinc (lv' := [_, _, _, _, _]) (pc := 58) hC dX6_covers_58 rfl (_ + 1) rfl rfl (by decide) rfl ?_
            refine WP.goto (pc := 61) hC dX6_covers_61 4 (by decide) ?_
            rw [nIp1]
            rw [ho] at hv
            exact hv _
  refine WP.iconst (pc := 0) hC dX6_covers_0 1 (by decide) ?_
  refine WP.isn (lv' := [_, _, _, _, _]) (pc := 1) hC dX6_covers_1 rfl (by decide) rfl ?_
  refine WP.iconst (pc := 2) hC dX6_covers_2 0 (by decide) ?_
  refine WP.isn (lv' := [_, _, _, _, _]) (pc := 3) hC dX6_covers_3 rfl (by decide) rfl ?_
  exact loop 0 (Nat.zero_le _) _
set_option maxHeartbeats 4000000 in
theorem k_X6_cover (l : Launch) (F : FF) (L : Int64) (nr ns : Nat) (hM : MR F nr ns) : CI l yX6_cover cX6_cover 4 (some .int) (rmx 5 122) wM [.ref 0] F L (bsM (fun q => allN (cvS F nr q) ns) (2 ^ nr)) F L := by
  refine mkI [some (.ref 0), none, none, none] 3 (by decide) rfl (Nat.le_of_ble_eq_true rfl) ?_
  intro x d hx hC
  subst hx
  have hC : Cx x cX6_cover 4 RX6 (some .int) (rmx 5 122) wM d := hC
  have hr5 := hM.2.2.1
  have h32 := pow5 nr hr5
  have loop : ∀ q, q ≤ 2 ^ nr → ∀ a3 : Option Value, WP x 4 wM d (QI x wM d (bsM (fun q => allN (cvS F nr q) ns) (2 ^ nr)) F L) 5 [some (.ref 0), some (.int (bsM (fun q => allN (cvS F nr q) ns) q)), some (.int (nI q)), a3] [] F L := by
    refine loop_c (n := 2 ^ nr) (P := fun q => ∀ a3 : Option Value, WP x 4 wM d (QI x wM d (bsM (fun q => allN (cvS F nr q) ns) (2 ^ nr)) F L) 5 [some (.ref 0), some (.int (bsM (fun q => allN (cvS F nr q) ns) q)), some (.int (nI q)), a3] [] F L) ?_
    intro q hq0 ih a3
    refine WP.iln (pc := 5) hC dX6_cover_5 rfl ?_
    refine WP.iconst (pc := 6) hC dX6_cover_6 1 (by decide) ?_
    refine WP.aln (pc := 7) hC dX6_cover_7 rfl ?_
    refine WP.gf (pc := 8) hC dX6_cover_8 fl_X6_86 (by decide) rfl rfl ?_
    refine WP.ishl (pc := 11) hC dX6_cover_11 ?_
    rw [hM.1, sh5 nr (by omega)]
    refine WP.icge (pc := 12) hC dX6_cover_12 62 (by decide) (fun h12 => ?_) (fun h12 => ?_)
    · have hq9 : q = 2 ^ nr := by
        have := (nI_leI (by omega) (by omega)).mp h12
        omega
      subst hq9
      refine WP.iln (pc := 62) hC dX6_cover_62 rfl ?_
      refine WP.iret (pc := 63) hC rfl dX6_cover_63 ?_ ?_ ?_
      all_goals (rfl)
    · have hq : q < 2 ^ nr := (nI_ltI (by omega) (by omega)).mp (i_nle.mp h12)
      have hv := ih hq
      refine WP.iln (pc := 15) hC dX6_cover_15 rfl ?_
      refine WP.bipush (pc := 16) hC dX6_cover_16 (-9) (by decide) ?_
      refine WP.iceq (pc := 18) hC dX6_cover_18 32 (by decide) (fun h18 => ?_) (fun h18 => ?_)
      · have hf : bsM (fun q => allN (cvS F nr q) ns) q = -9 ∨ onI (nI q) 20 < onI (bsM (fun q => allN (cvS F nr q) ns) q) 20 := by first | exact Or.inl h18 | exact Or.inr (i_nle.mp h29)
        refine WP.iconst (pc := 32) hC dX6_cover_32 1 (by decide) ?_
        refine WP.goto (pc := 33) hC dX6_cover_33 37 (by decide) ?_
        refine WP.isn (lv' := [_, _, _, _]) (pc := 37) hC dX6_cover_37 rfl (by decide) rfl ?_
        refine WP.iln (pc := 38) hC dX6_cover_38 rfl ?_
        refine WP.ifeq (pc := 39) hC dX6_cover_39 54 (by decide) (fun h39 => absurd h39 (by decide)) (fun h39 => ?_)
        refine WP.aln (pc := 42) hC dX6_cover_42 rfl ?_
        refine WP.iln (pc := 43) hC dX6_cover_43 rfl ?_
        refine WP.callVI (pc := 44) hC dX6_cover_44 (k_X6_covers _ F L nr ns q hM) ml_X6_140 rfl rfl (by decide) rfl (Nat.le_of_ble_eq_true rfl) ⟨by decide, by decide⟩ ?_
        refine WP.ifeq (pc := 47) hC dX6_cover_47 54 (by decide) (fun h47 => ?_) (fun h47 => ?_)
        · refine WP.iln (pc := 54) hC dX6_cover_54 rfl ?_
          refine WP.isn (lv' := [_, _, _, _]) (pc := 55) hC dX6_cover_55 rfl (by decide) rfl ?_
          refine WP.iinc (lv' := [_, _, _, _]) (pc := 56) hC dX6_cover_56 rfl (_ + 1) rfl rfl (by decide) rfl ?_
          refine WP.goto (pc := 59) hC dX6_cover_59 5 (by decide) ?_
          rw [nIp1]
          rw [bsM] at hv
          first | (rw [b2_n0] at h47; rw [if_pos ⟨hf, h47⟩] at hv; exact hv _) | (rw [b2_0] at h47; rw [if_neg (by rintro ⟨z1, z2⟩; rw [h47] at z2; cases z2)] at hv; exact hv _) | (rw [if_neg (fun z => hf z.1)] at hv; exact hv _)
        · refine WP.iln (pc := 50) hC dX6_cover_50 rfl ?_
          refine WP.goto (pc := 51) hC dX6_cover_51 55 (by decide) ?_
          refine WP.isn (lv' := [_, _, _, _]) (pc := 55) hC dX6_cover_55 rfl (by decide) rfl ?_
          refine WP.iinc (lv' := [_, _, _, _]) (pc := 56) hC dX6_cover_56 rfl (_ + 1) rfl rfl (by decide) rfl ?_
          refine WP.goto (pc := 59) hC dX6_cover_59 5 (by decide) ?_
          rw [nIp1]
          rw [bsM] at hv
          first | (rw [b2_n0] at h47; rw [if_pos ⟨hf, h47⟩] at hv; exact hv _) | (rw [b2_0] at h47; rw [if_neg (by rintro ⟨z1, z2⟩; rw [h47] at z2; cases z2)] at hv; exact hv _) | (rw [if_neg (fun z => hf z.1)] at hv; exact hv _)
      · refine WP.iln (pc := 21) hC dX6_cover_21 rfl ?_
        refine WP.callSI (pc := 22) hC dX6_cover_22 (k_X6_ones _ F L wM _) ml_X6_137 rfl rfl (Nat.le_of_ble_eq_true rfl) ⟨by decide, by decide⟩ ?_
        refine WP.iln (pc := 25) hC dX6_cover_25 rfl ?_
        refine WP.callSI (pc := 26) hC dX6_cover_26 (k_X6_ones _ F L wM _) ml_X6_137 rfl rfl (Nat.le_of_ble_eq_true rfl) ⟨by decide, by decide⟩ ?_
        refine WP.icge (pc := 29) hC dX6_cover_29 36 (by decide) (fun h29 => ?_) (fun h29 => ?_)
        · have hf : ¬ (bsM (fun q => allN (cvS F nr q) ns) q = -9 ∨ onI (nI q) 20 < onI (bsM (fun q => allN (cvS F nr q) ns) q) 20) := by
            rintro (z | z)
            · exact h18 z
            · exact i_nlt.mpr h29 z
          refine WP.iconst (pc := 36) hC dX6_cover_36 0 (by decide) ?_
          refine WP.isn (lv' := [_, _, _, _]) (pc := 37) hC dX6_cover_37 rfl (by decide) rfl ?_
          refine WP.iln (pc := 38) hC dX6_cover_38 rfl ?_
          refine WP.ifeq (pc := 39) hC dX6_cover_39 54 (by decide) (fun h39 => ?_) (fun h39 => absurd h39 (by decide))
          refine WP.iln (pc := 54) hC dX6_cover_54 rfl ?_
          refine WP.isn (lv' := [_, _, _, _]) (pc := 55) hC dX6_cover_55 rfl (by decide) rfl ?_
          refine WP.iinc (lv' := [_, _, _, _]) (pc := 56) hC dX6_cover_56 rfl (_ + 1) rfl rfl (by decide) rfl ?_
          refine WP.goto (pc := 59) hC dX6_cover_59 5 (by decide) ?_
          rw [nIp1]
          rw [bsM] at hv
          first | (rw [b2_n0] at h47; rw [if_pos ⟨hf, h47⟩] at hv; exact hv _) | (rw [b2_0] at h47; rw [if_neg (by rintro ⟨z1, z2⟩; rw [h47] at z2; cases z2)] at hv; exact hv _) | (rw [if_neg (fun z => hf z.1)] at hv; exact hv _)
        · have hf : bsM (fun q => allN (cvS F nr q) ns) q = -9 ∨ onI (nI q) 20 < onI (bsM (fun q => allN (cvS F nr q) ns) q) 20 := by first | exact Or.inl h18 | exact Or.inr (i_nle.mp h29)
          refine WP.iconst (pc := 32) hC dX6_cover_32 1 (by decide) ?_
          refine WP.goto (pc := 33) hC dX6_cover_33 37 (by decide) ?_
          refine WP.isn (lv' := [_, _, _, _]) (pc := 37) hC dX6_cover_37 rfl (by decide) rfl ?_
          refine WP.iln (pc := 38) hC dX6_cover_38 rfl ?_
          refine WP.ifeq (pc := 39) hC dX6_cover_39 54 (by decide) (fun h39 => absurd h39 (by decide)) (fun h39 => ?_)
          refine WP.aln (pc := 42) hC dX6_cover_42 rfl ?_
          refine WP.iln (pc := 43) hC dX6_cover_43 rfl ?_
          refine WP.callVI (pc := 44) hC dX6_cover_44 (k_X6_covers _ F L nr ns q hM) ml_X6_140 rfl rfl (by decide) rfl (Nat.le_of_ble_eq_true rfl) ⟨by decide, by decide⟩ ?_
          refine WP.ifeq (pc := 47) hC dX6_cover_47 54 (by decide) (fun h47 => ?_) (fun h47 => ?_)
          · refine WP.iln (pc := 54) hC dX6_cover_54 rfl ?_
            refine WP.isn (lv' := [_, _, _, _]) (pc := 55) hC dX6_cover_55 rfl (by decide) rfl ?_
            refine WP.iinc (lv' := [_, _, _, _]) (pc := 56) hC dX6_cover_56 rfl (_ + 1) rfl rfl (by decide) rfl ?_
            refine WP.goto (pc := 59) hC dX6_cover_59 5 (by decide) ?_
            rw [nIp1]
            rw [bsM] at hv
            first | (rw [b2_n0] at h47; rw [if_pos ⟨hf, h47⟩] at hv; exact hv _) | (rw [b2_0] at h47; rw [if_neg (by rintro ⟨z1, z2⟩; rw [h47] at z2; cases z2)] at hv; exact hv _) | (rw [if_neg (fun z => hf z.1)] at hv; exact hv _)
          · refine WP.iln (pc := 50) hC dX6_cover_50 rfl ?_
            refine WP.goto (pc := 51) hC dX6_cover_51 55 (by decide) ?_
            refine WP.isn (lv' := [_, _, _, _]) (pc := 55) hC dX6_cover_55 rfl (by decide) rfl ?_
            refine WP.iinc (lv' := [_, _, _, _]) (pc := 56) hC dX6_cover_56 rfl (_ + 1) rfl rfl (by decide) rfl ?_
            refine WP.goto (pc := 59) hC dX6_cover_59 5 (by decide) ?_
            rw [nIp1]
            rw [bsM] at hv
            first | (rw [b2_n0] at h47; rw [if_pos ⟨hf, h47⟩] at hv; exact hv _) | (rw [b2_0] at h47; rw [if_neg (by rintro ⟨z1, z2⟩; rw [h47] at z2; cases z2)] at hv; exact hv _) | (rw [if_neg (fun z => hf z.1)] at hv; exact hv _)
  refine WP.bipush (pc := 0) hC dX6_cover_0 (-9) (by decide) ?_
  refine WP.isn (lv' := [_, _, _, _]) (pc := 2) hC dX6_cover_2 rfl (by decide) rfl ?_
  refine WP.iconst (pc := 3) hC dX6_cover_3 0 (by decide) ?_
  refine WP.isn (lv' := [_, _, _, _]) (pc := 4) hC dX6_cover_4 rfl (by decide) rfl ?_
  exact loop 0 (Nat.zero_le _) _
set_option maxHeartbeats 4000000 in
theorem k_X6_wrong (l : Launch) (F : FF) (L : Int64) (nr ns : Nat) (which : Bool) (hM : MR F nr ns) : CI l yX6_wrong cX6_wrong 8 (some .int) (rmx 2 45) wM [.ref 0, .int (b2 which)] F L (wgMR F nr ns which) F L := by
  refine mkI [some (.ref 0), some (.int (b2 which)), none, none, none, none, none, none] 6 (by decide) rfl (Nat.le_of_ble_eq_true rfl) ?_
  intro x d hx hC
  subst hx
  have hC : Cx x cX6_wrong 8 RX6 (some .int) (rmx 2 45) wM d := hC
  have hs4 := hM.2.2.2
  have hr5 := hM.2.2.1
  have loop : ∀ s, s ≤ ns → ∀ a4 a5 a6 a7 : Option Value, WP x 8 wM d (QI x wM d (wgMR F nr ns which) F L) 4 [some (.ref 0), some (.int (b2 which)), some (.int (wgM F nr s)), some (.int (nI s)), a4, a5, a6, a7] [] F L := by
    refine loop_c (n := ns) (P := fun s => ∀ a4 a5 a6 a7 : Option Value, WP x 8 wM d (QI x wM d (wgMR F nr ns which) F L) 4 [some (.ref 0), some (.int (b2 which)), some (.int (wgM F nr s)), some (.int (nI s)), a4, a5, a6, a7] [] F L) ?_
    intro s hs0 ih a4 a5 a6 a7
    refine WP.iln (pc := 4) hC dX6_wrong_4 rfl ?_
    refine WP.aln (pc := 5) hC dX6_wrong_5 rfl ?_
    refine WP.gf (pc := 6) hC dX6_wrong_6 fl_X6_89 (by decide) rfl rfl ?_
    refine WP.icge (pc := 9) hC dX6_wrong_9 110 (by decide) (fun h9 => ?_) (fun h9 => ?_)
    · have h_s : s = ns := by
        have h9 := h9
        rw [hM.2.1] at h9
        have := (nI_leI (by omega) (by omega)).mp h9
        omega
      subst h_s
      refine WP.iln (pc := 110) hC dX6_wrong_110 rfl ?_
      refine WP.ifeq (pc := 111) hC dX6_wrong_111 118 (by decide) (fun h111 => ?_) (fun h111 => ?_)
      · rw [b2_0] at h111
        refine WP.iln (pc := 118) hC dX6_wrong_118 rfl ?_
        refine WP.callSI (pc := 119) hC dX6_wrong_119 (k_X6_ones _ F L wM _) ml_X6_137 rfl rfl (Nat.le_of_ble_eq_true rfl) ⟨by decide, by decide⟩ ?_
        refine WP.iret (pc := 122) hC rfl dX6_wrong_122 ?_ ?_ ?_
        all_goals (first | rfl | (subst h111; rfl))
      · rw [b2_n0] at h111
        refine WP.iln (pc := 114) hC dX6_wrong_114 rfl ?_
        refine WP.goto (pc := 115) hC dX6_wrong_115 122 (by decide) ?_
        refine WP.iret (pc := 122) hC rfl dX6_wrong_122 ?_ ?_ ?_
        all_goals (first | rfl | (subst h111; rfl))
    · have h_s : s < ns := by
        have h9 := h9
        rw [hM.2.1] at h9
        exact (nI_ltI (by omega) (by omega)).mp (i_nle.mp h9)
      have hvo := ih h_s
      refine WP.aln (pc := 12) hC dX6_wrong_12 rfl ?_
      refine WP.aln (pc := 13) hC dX6_wrong_13 rfl ?_
      refine WP.gf (pc := 14) hC dX6_wrong_14 fl_X6_22 (by decide) rfl rfl ?_
      refine WP.iconst (pc := 17) hC dX6_wrong_17 5 (by decide) ?_
      refine WP.ial (pc := 18) hC dX6_wrong_18 5 rfl (by decide) (by decide) rfl (by decide) ?_
      refine WP.iln (pc := 19) hC dX6_wrong_19 rfl ?_
      refine WP.callVI (pc := 20) hC dX6_wrong_20 (k_X6_papersOn _ F L nr ns s _ hM) ml_X6_125 rfl rfl (by decide) rfl (Nat.le_of_ble_eq_true rfl) ⟨by decide, by decide⟩ ?_
      refine WP.is (lv' := [_, _, _, _, _, _, _, _]) (pc := 23) hC dX6_wrong_23 rfl (by decide) rfl ?_
      refine WP.aln (pc := 25) hC dX6_wrong_25 rfl ?_
      refine WP.aln (pc := 26) hC dX6_wrong_26 rfl ?_
      refine WP.gf (pc := 27) hC dX6_wrong_27 fl_X6_22 (by decide) rfl rfl ?_
      refine WP.bipush (pc := 30) hC dX6_wrong_30 6 (by decide) ?_
      refine WP.ial (pc := 32) hC dX6_wrong_32 6 rfl (by decide) (by decide) rfl (by decide) ?_
      refine WP.iln (pc := 33) hC dX6_wrong_33 rfl ?_
      refine WP.callVI (pc := 34) hC dX6_wrong_34 (k_X6_papersOn _ F L nr ns s _ hM) ml_X6_125 rfl rfl (by decide) rfl (Nat.le_of_ble_eq_true rfl) ⟨by decide, by decide⟩ ?_
      refine WP.is (lv' := [_, _, _, _, _, _, _, _]) (pc := 37) hC dX6_wrong_37 rfl (by decide) rfl ?_
      refine WP.il (pc := 39) hC dX6_wrong_39 rfl ?_
      refine WP.callSI (pc := 41) hC dX6_wrong_41 (k_X6_ones _ F L wM _) ml_X6_137 rfl rfl (Nat.le_of_ble_eq_true rfl) ⟨by decide, by decide⟩ ?_
      refine WP.il (pc := 44) hC dX6_wrong_44 rfl ?_
      refine WP.callSI (pc := 46) hC dX6_wrong_46 (k_X6_ones _ F L wM _) ml_X6_137 rfl rfl (Nat.le_of_ble_eq_true rfl) ⟨by decide, by decide⟩ ?_
      refine WP.icgt (pc := 49) hC dX6_wrong_49 57 (by decide) (fun h49 => ?_) (fun h49 => ?_)
      · have hfw : fewM F nr s = bits (ppM (F 5 6) s) nr := by unfold fewM; rw [if_neg (i_nle.mpr h49)]
        refine WP.il (pc := 57) hC dX6_wrong_57 rfl ?_
        rw [← hfw]
        refine WP.is (lv' := [_, _, _, _, _, _, _, _]) (pc := 59) hC dX6_wrong_59 rfl (by decide) rfl ?_
        refine WP.iconst (pc := 61) hC dX6_wrong_61 0 (by decide) ?_
        refine WP.is (lv' := [_, _, _, _, _, _, _, _]) (pc := 62) hC dX6_wrong_62 rfl (by decide) rfl ?_
        have loop2 : ∀ r, r ≤ nr → ∀ b4 b5 : Option Value, WP x 8 wM d (QI x wM d (wgMR F nr ns which) F L) 64 [some (.ref 0), some (.int (b2 which)), some (.int (wiM (wgM F nr s) (fewM F nr s) s r)), some (.int (nI s)), b4, b5, some (.int (nI (fewM F nr s))), some (.int (nI r))] [] F L := by
          refine loop_c (n := nr) (P := fun r => ∀ b4 b5 : Option Value, WP x 8 wM d (QI x wM d (wgMR F nr ns which) F L) 64 [some (.ref 0), some (.int (b2 which)), some (.int (wiM (wgM F nr s) (fewM F nr s) s r)), some (.int (nI s)), b4, b5, some (.int (nI (fewM F nr s))), some (.int (nI r))] [] F L) ?_
          intro r hr0 ih2 b4 b5
          refine WP.il (pc := 64) hC dX6_wrong_64 rfl ?_
          refine WP.aln (pc := 66) hC dX6_wrong_66 rfl ?_
          refine WP.gf (pc := 67) hC dX6_wrong_67 fl_X6_86 (by decide) rfl rfl ?_
          refine WP.icge (pc := 70) hC dX6_wrong_70 104 (by decide) (fun h70 => ?_) (fun h70 => ?_)
          · have h_r : r = nr := by
              have h70 := h70
              rw [hM.1] at h70
              have := (nI_leI (by omega) (by omega)).mp h70
              omega
            rw [h_r]
            rw [wgM] at hvo
            refine WP.iinc (lv' := [_, _, _, _, _, _, _, _]) (pc := 104) hC dX6_wrong_104 rfl (_ + 1) rfl rfl (by decide) rfl ?_
            refine WP.goto (pc := 107) hC dX6_wrong_107 4 (by decide) ?_
            rw [nIp1]
            exact hvo _ _ _ _
          · have h_r : r < nr := by
              have h70 := h70
              rw [hM.1] at h70
              exact (nI_ltI (by omega) (by omega)).mp (i_nle.mp h70)
            have hv := ih2 h_r
            refine WP.iln (pc := 73) hC dX6_wrong_73 rfl ?_
            refine WP.il (pc := 74) hC dX6_wrong_74 rfl ?_
            refine WP.il (pc := 76) hC dX6_wrong_76 rfl ?_
            refine WP.callSI (pc := 78) hC dX6_wrong_78 (k_X6_has _ F L wM _ _) ml_X6_115 rfl rfl (Nat.le_of_ble_eq_true rfl) ⟨by decide, by decide⟩ ?_
            refine WP.ifeq (pc := 81) hC dX6_wrong_81 95 (by decide) (fun h81 => ?_) (fun h81 => ?_)
            · rw [b2_0] at h81
              refine WP.iconst (pc := 95) hC dX6_wrong_95 0 (by decide) ?_
              first | rw [shP r (by omega) s (by omega)] | skip
              refine WP.ior (pc := 96) hC dX6_wrong_96 ?_
              try rw [or0]
              refine WP.isn (lv' := [_, _, _, _, _, _, _, _]) (pc := 97) hC dX6_wrong_97 rfl (by decide) rfl ?_
              refine WP.iinc (lv' := [_, _, _, _, _, _, _, _]) (pc := 98) hC dX6_wrong_98 rfl (_ + 1) rfl rfl (by decide) rfl ?_
              refine WP.goto (pc := 101) hC dX6_wrong_101 64 (by decide) ?_
              rw [nIp1]
              first | (rw [wiM, if_pos h81] at hv; exact hv _ _) | (rw [wiM, if_neg (by rw [h81]; decide)] at hv; exact hv _ _)
            · rw [b2_n0] at h81
              refine WP.iconst (pc := 84) hC dX6_wrong_84 1 (by decide) ?_
              refine WP.iconst (pc := 85) hC dX6_wrong_85 4 (by decide) ?_
              refine WP.il (pc := 86) hC dX6_wrong_86 rfl ?_
              refine WP.imul (pc := 88) hC dX6_wrong_88 ?_
              refine WP.iln (pc := 89) hC dX6_wrong_89 rfl ?_
              refine WP.iadd (pc := 90) hC dX6_wrong_90 ?_
              rw [nI4, nI_add]
              refine WP.ishl (pc := 91) hC dX6_wrong_91 ?_
              refine WP.goto (pc := 92) hC dX6_wrong_92 96 (by decide) ?_
              first | rw [shP r (by omega) s (by omega)] | skip
              refine WP.ior (pc := 96) hC dX6_wrong_96 ?_
              try rw [or0]
              refine WP.isn (lv' := [_, _, _, _, _, _, _, _]) (pc := 97) hC dX6_wrong_97 rfl (by decide) rfl ?_
              refine WP.iinc (lv' := [_, _, _, _, _, _, _, _]) (pc := 98) hC dX6_wrong_98 rfl (_ + 1) rfl rfl (by decide) rfl ?_
              refine WP.goto (pc := 101) hC dX6_wrong_101 64 (by decide) ?_
              rw [nIp1]
              first | (rw [wiM, if_pos h81] at hv; exact hv _ _) | (rw [wiM, if_neg (by rw [h81]; decide)] at hv; exact hv _ _)
        exact loop2 0 (Nat.zero_le _) _ _
      · have hfw : fewM F nr s = bits (ppM (F 5 5) s) nr := by unfold fewM; rw [if_pos (i_nlt.mp h49)]
        refine WP.il (pc := 52) hC dX6_wrong_52 rfl ?_
        refine WP.goto (pc := 54) hC dX6_wrong_54 59 (by decide) ?_
        rw [← hfw]
        refine WP.is (lv' := [_, _, _, _, _, _, _, _]) (pc := 59) hC dX6_wrong_59 rfl (by decide) rfl ?_
        refine WP.iconst (pc := 61) hC dX6_wrong_61 0 (by decide) ?_
        refine WP.is (lv' := [_, _, _, _, _, _, _, _]) (pc := 62) hC dX6_wrong_62 rfl (by decide) rfl ?_
        have loop2 : ∀ r, r ≤ nr → ∀ b4 b5 : Option Value, WP x 8 wM d (QI x wM d (wgMR F nr ns which) F L) 64 [some (.ref 0), some (.int (b2 which)), some (.int (wiM (wgM F nr s) (fewM F nr s) s r)), some (.int (nI s)), b4, b5, some (.int (nI (fewM F nr s))), some (.int (nI r))] [] F L := by
          refine loop_c (n := nr) (P := fun r => ∀ b4 b5 : Option Value, WP x 8 wM d (QI x wM d (wgMR F nr ns which) F L) 64 [some (.ref 0), some (.int (b2 which)), some (.int (wiM (wgM F nr s) (fewM F nr s) s r)), some (.int (nI s)), b4, b5, some (.int (nI (fewM F nr s))), some (.int (nI r))] [] F L) ?_
          intro r hr0 ih2 b4 b5
          refine WP.il (pc := 64) hC dX6_wrong_64 rfl ?_
          refine WP.aln (pc := 66) hC dX6_wrong_66 rfl ?_
          refine WP.gf (pc := 67) hC dX6_wrong_67 fl_X6_86 (by decide) rfl rfl ?_
          refine WP.icge (pc := 70) hC dX6_wrong_70 104 (by decide) (fun h70 => ?_) (fun h70 => ?_)
          · have h_r : r = nr := by
              have h70 := h70
              rw [hM.1] at h70
              have := (nI_leI (by omega) (by omega)).mp h70
              omega
            rw [h_r]
            rw [wgM] at hvo
            refine WP.iinc (lv' := [_, _, _, _, _, _, _, _]) (pc := 104) hC dX6_wrong_104 rfl (_ + 1) rfl rfl (by decide) rfl ?_
            refine WP.goto (pc := 107) hC dX6_wrong_107 4 (by decide) ?_
            rw [nIp1]
            exact hvo _ _ _ _
          · have h_r : r < nr := by
              have h70 := h70
              rw [hM.1] at h70
              exact (nI_ltI (by omega) (by omega)).mp (i_nle.mp h70)
            have hv := ih2 h_r
            refine WP.iln (pc := 73) hC dX6_wrong_73 rfl ?_
            refine WP.il (pc := 74) hC dX6_wrong_74 rfl ?_
            refine WP.il (pc := 76) hC dX6_wrong_76 rfl ?_
            refine WP.callSI (pc := 78) hC dX6_wrong_78 (k_X6_has _ F L wM _ _) ml_X6_115 rfl rfl (Nat.le_of_ble_eq_true rfl) ⟨by decide, by decide⟩ ?_
            refine WP.ifeq (pc := 81) hC dX6_wrong_81 95 (by decide) (fun h81 => ?_) (fun h81 => ?_)
            · rw [b2_0] at h81
              refine WP.iconst (pc := 95) hC dX6_wrong_95 0 (by decide) ?_
              first | rw [shP r (by omega) s (by omega)] | skip
              refine WP.ior (pc := 96) hC dX6_wrong_96 ?_
              try rw [or0]
              refine WP.isn (lv' := [_, _, _, _, _, _, _, _]) (pc := 97) hC dX6_wrong_97 rfl (by decide) rfl ?_
              refine WP.iinc (lv' := [_, _, _, _, _, _, _, _]) (pc := 98) hC dX6_wrong_98 rfl (_ + 1) rfl rfl (by decide) rfl ?_
              refine WP.goto (pc := 101) hC dX6_wrong_101 64 (by decide) ?_
              rw [nIp1]
              first | (rw [wiM, if_pos h81] at hv; exact hv _ _) | (rw [wiM, if_neg (by rw [h81]; decide)] at hv; exact hv _ _)
            · rw [b2_n0] at h81
              refine WP.iconst (pc := 84) hC dX6_wrong_84 1 (by decide) ?_
              refine WP.iconst (pc := 85) hC dX6_wrong_85 4 (by decide) ?_
              refine WP.il (pc := 86) hC dX6_wrong_86 rfl ?_
              refine WP.imul (pc := 88) hC dX6_wrong_88 ?_
              refine WP.iln (pc := 89) hC dX6_wrong_89 rfl ?_
              refine WP.iadd (pc := 90) hC dX6_wrong_90 ?_
              rw [nI4, nI_add]
              refine WP.ishl (pc := 91) hC dX6_wrong_91 ?_
              refine WP.goto (pc := 92) hC dX6_wrong_92 96 (by decide) ?_
              first | rw [shP r (by omega) s (by omega)] | skip
              refine WP.ior (pc := 96) hC dX6_wrong_96 ?_
              try rw [or0]
              refine WP.isn (lv' := [_, _, _, _, _, _, _, _]) (pc := 97) hC dX6_wrong_97 rfl (by decide) rfl ?_
              refine WP.iinc (lv' := [_, _, _, _, _, _, _, _]) (pc := 98) hC dX6_wrong_98 rfl (_ + 1) rfl rfl (by decide) rfl ?_
              refine WP.goto (pc := 101) hC dX6_wrong_101 64 (by decide) ?_
              rw [nIp1]
              first | (rw [wiM, if_pos h81] at hv; exact hv _ _) | (rw [wiM, if_neg (by rw [h81]; decide)] at hv; exact hv _ _)
        exact loop2 0 (Nat.zero_le _) _ _
  refine WP.iconst (pc := 0) hC dX6_wrong_0 0 (by decide) ?_
  refine WP.isn (lv' := [_, _, _, _, _, _, _, _]) (pc := 1) hC dX6_wrong_1 rfl (by decide) rfl ?_
  refine WP.iconst (pc := 2) hC dX6_wrong_2 0 (by decide) ?_
  refine WP.isn (lv' := [_, _, _, _, _, _, _, _]) (pc := 3) hC dX6_wrong_3 rfl (by decide) rfl ?_
  exact loop 0 (Nat.zero_le _) _ _ _ _
set_option maxHeartbeats 4000000 in
theorem k_X6_layTrial (l : Launch) (F : FF) (L : Int64)  : CV l yX6_layTrial cX6_layTrial 2 none (rmx 0 0) wM [.ref 0] F L (lyM F) L := by
  refine mkV [some (.ref 0), none] 1 (by decide) rfl (Nat.le_of_ble_eq_true rfl) ?_
  intro x d hx hC
  subst hx
  have hC : Cx x cX6_layTrial 2 RX6 none (rmx 0 0) wM d := hC
  have loop : ∀ k, k ≤ 9 → WP x 2 wM d (QV x wM d (lyM F) L) 2 [some (.ref 0), some (.int (nI k))] [] (upF F 5 (ovl (F 5) 9 (F 5) k)) L := by
    refine loop_c (n := 9) (P := fun k => WP x 2 wM d (QV x wM d (lyM F) L) 2 [some (.ref 0), some (.int (nI k))] [] (upF F 5 (ovl (F 5) 9 (F 5) k)) L) ?_
    intro k hk0 ih
    refine WP.iln (pc := 2) hC dX6_layTrial_2 rfl ?_
    refine WP.bipush (pc := 3) hC dX6_layTrial_3 9 (by decide) ?_
    refine WP.icge (pc := 5) hC dX6_layTrial_5 29 (by decide) (fun h5 => ?_) (fun h5 => ?_)
    · have hk9 : k = 9 := by
        have := (nI_leI (a := 9) (by decide) (by omega)).mp h5
        omega
      subst hk9
      refine WP.vret (pc := 29) hC rfl dX6_layTrial_29 ?_ ?_
      all_goals (rfl)
    · have hk : k < 9 := (nI_ltI (b := 9) (by omega) (by decide)).mp (i_nle.mp h5)
      have hv := ih hk
      refine WP.aln (pc := 8) hC dX6_layTrial_8 rfl ?_
      refine WP.gf (pc := 9) hC dX6_layTrial_9 fl_X6_22 (by decide) rfl rfl ?_
      refine WP.bipush (pc := 12) hC dX6_layTrial_12 9 (by decide) ?_
      refine WP.iln (pc := 14) hC dX6_layTrial_14 rfl ?_
      refine WP.iadd (pc := 15) hC dX6_layTrial_15 ?_
      rw [show (9 : Int32) + nI k = nI (9 + k) from nI_add 9 k]
      refine WP.aln (pc := 16) hC dX6_layTrial_16 rfl ?_
      refine WP.gf (pc := 17) hC dX6_layTrial_17 fl_X6_22 (by decide) rfl rfl ?_
      refine WP.iln (pc := 20) hC dX6_layTrial_20 rfl ?_
      refine WP.ial (pc := 21) hC dX6_layTrial_21 k rfl (by omega) (by decide) rfl (by decide) ?_
      rw [upF_at, ovl_out (Or.inl hk)]
      refine WP.ias (pc := 22) hC dX6_layTrial_22 (9 + k) rfl (by omega) (by decide) rfl rfl (by decide) ?_
      rw [upF_up2, ovl_up]
      refine WP.iinc (lv' := [_, _]) (pc := 23) hC dX6_layTrial_23 rfl (_ + 1) rfl rfl (by decide) rfl ?_
      refine WP.goto (pc := 26) hC dX6_layTrial_26 2 (by decide) ?_
      rw [nIp1]
      exact hv
  refine WP.iconst (pc := 0) hC dX6_layTrial_0 0 (by decide) ?_
  refine WP.isn (lv' := [_, _]) (pc := 1) hC dX6_layTrial_1 rfl (by decide) rfl ?_
  have hz := loop 0 (by decide)
  rw [ovl_0, upF_self] at hz
  exact hz
set_option maxHeartbeats 4000000 in
theorem k_X6_power (l : Launch) (F : FF) (L : Int64) (wd : WD) (a n : Nat) (hn : n < 100) : CI l yX6_power cX6_power 4 (some .int) (rmx 0 0) wd [.int (nI a), .int (nI n)] F L (nI (a ^ n)) F L := by
  refine mkI [some (.int (nI a)), some (.int (nI n)), none, none] 2 (by decide) rfl (Nat.le_of_ble_eq_true rfl) ?_
  intro x d hx hC
  subst hx
  have hC : Cx x cX6_power 4 RX6 (some .int) (rmx 0 0) wd d := hC
  have loop : ∀ k, k ≤ n → WP x 4 wd d (QI x wd d (nI (a ^ n)) F L) 4 [some (.int (nI a)), some (.int (nI n)), some (.int (nI (a ^ k))), some (.int (nI k))] [] F L := by
    refine loop_c (n := n) (P := fun k => WP x 4 wd d (QI x wd d (nI (a ^ n)) F L) 4 [some (.int (nI a)), some (.int (nI n)), some (.int (nI (a ^ k))), some (.int (nI k))] [] F L) ?_
    intro k hk0 ih
    refine WP.iln (pc := 4) hC dX6_power_4 rfl ?_
    refine WP.iln (pc := 5) hC dX6_power_5 rfl ?_
    refine WP.icge (pc := 6) hC dX6_power_6 19 (by decide) (fun h6 => ?_) (fun h6 => ?_)
    · have hk9 : k = n := by
        have := (nI_leI (by omega) (by omega)).mp h6
        omega
      subst hk9
      refine WP.iln (pc := 19) hC dX6_power_19 rfl ?_
      refine WP.iret (pc := 20) hC rfl dX6_power_20 ?_ ?_ ?_
      all_goals (rfl)
    · have hk : k < n := (nI_ltI (by omega) (by omega)).mp (i_nle.mp h6)
      have hv := ih hk
      refine WP.iln (pc := 9) hC dX6_power_9 rfl ?_
      refine WP.iln (pc := 10) hC dX6_power_10 rfl ?_
      refine WP.imul (pc := 11) hC dX6_power_11 ?_
      rw [pk_mul, ← Nat.pow_succ]
      refine WP.isn (lv' := [_, _, _, _]) (pc := 12) hC dX6_power_12 rfl (by decide) rfl ?_
      refine WP.iinc (lv' := [_, _, _, _]) (pc := 13) hC dX6_power_13 rfl (_ + 1) rfl rfl (by decide) rfl ?_
      refine WP.goto (pc := 16) hC dX6_power_16 4 (by decide) ?_
      rw [nIp1]
      exact hv
  refine WP.iconst (pc := 0) hC dX6_power_0 1 (by decide) ?_
  refine WP.isn (lv' := [_, _, _, _]) (pc := 1) hC dX6_power_1 rfl (by decide) rfl ?_
  refine WP.iconst (pc := 2) hC dX6_power_2 0 (by decide) ?_
  refine WP.isn (lv' := [_, _, _, _]) (pc := 3) hC dX6_power_3 rfl (by decide) rfl ?_
  exact loop 0 (Nat.zero_le _)
set_option maxHeartbeats 4000000 in
theorem k_X6_tryThing (l : Launch) (F : FF) (L : Int64) (nr ns a c : Nat) (hM : MR F nr ns) (ha : a < 10) (hc : c < 10) : CI l yX6_tryThing cX6_tryThing 4 (some .boolean) (rmx 4 101) wM [.ref 0, .int (nI a), .int (nI c)] F L (b2 (tyB F nr ns a c)) (tyF F nr ns a c) L := by
  refine mkI [some (.ref 0), some (.int (nI a)), some (.int (nI c)), none] 1 (by decide) rfl (Nat.le_of_ble_eq_true rfl) ?_
  intro x d hx hC
  subst hx
  have hC : Cx x cX6_tryThing 4 RX6 (some .boolean) (rmx 4 101) wM d := hC
  have hr5 := hM.2.2.1
  have hs4 := hM.2.2.2
  have na0 : nI a = 0 ↔ a = 0 := nI_eq (b := 0) (by omega) (by decide)
  have nc0 : nI c = 0 ↔ c = 0 := nI_eq (b := 0) (by omega) (by decide)
  have na6 : nI a = 6 ↔ a = 6 := nI_eq (b := 6) (by omega) (by decide)
  have nc2 : 2 ≤ nI c ↔ 2 ≤ c := nI_leI (a := 2) (by decide) (by omega)
  have nl6 : 6 ≤ nI a ↔ 6 ≤ a := nI_leI (a := 6) (by decide) (by omega)
  have hbs : ∀ q, q < 10 → ∀ n, n ≤ 5 → hasB (nI q) n = decide (q < n) := fun q hq n hn => by
    unfold hasB
    simp only [nI_ltI (show q < 2 ^ 31 by omega) (show n < 2 ^ 31 by omega), nI_pos' (show q < 2 ^ 31 by omega), decide_true, Bool.true_and]
  refine WP.iln (pc := 0) hC dX6_tryThing_0 rfl ?_
  refine WP.ifne (pc := 1) hC dX6_tryThing_1 44 (by decide) (fun h1 => ?_) (fun h1 => ?_)
  · rw [na0] at h1
    refine WP.iln (pc := 44) hC dX6_tryThing_44 rfl ?_
    refine WP.bipush (pc := 45) hC dX6_tryThing_45 6 (by decide) ?_
    refine WP.icne (pc := 47) hC dX6_tryThing_47 92 (by decide) (fun h47 => ?_) (fun h47 => ?_)
    · rw [na6] at h47
      refine WP.iln (pc := 92) hC dX6_tryThing_92 rfl ?_
      refine WP.bipush (pc := 93) hC dX6_tryThing_93 6 (by decide) ?_
      refine WP.icge (pc := 95) hC dX6_tryThing_95 141 (by decide) (fun h95 => ?_) (fun h95 => ?_)
      · refine WP.iconst (pc := 141) hC dX6_tryThing_141 0 (by decide) ?_
        refine WP.zret (pc := 142) hC rfl (by first | exact Or.inl rfl | exact Or.inr rfl | exact b2_01 _) dX6_tryThing_142 ?_ ?_ ?_
        all_goals (first | rfl | (simp [tyB, h1, h47, h95, h105, h113, hy, b2]; done) | (simp [tyF, h1, h47, h95, h105, h113, hy]; done) | (simp [tyB, h1, h47, h95, h105, h113, hy, i_nle.mp h134, b2]; done) | (simp [tyB, h1, h47, h95, h105, h113, hy, i_nlt.mpr h134, b2]; done) | (rw [b2_0, decide_eq_false_iff_not] at h113; first | (simp [tyB, h1, h47, h95, h105, h113, b2]; done) | (simp [tyF, h1, h47, h95, h105, h113]; done)) | (rw [b2_0, decide_eq_false_iff_not] at h105; first | (simp [tyB, h1, h47, h95, h105, b2]; done) | (simp [tyF, h1, h47, h95, h105]; done)) | (rw [nl6] at h95; have h95 : ¬ a < 6 := (by omega); first | (simp [tyB, h1, h47, h95, b2]; done) | (simp [tyF, h1, h47, h95]; done)))
      · have h95 : a < 6 := by
          have := mt nl6.mpr h95
          omega
        refine WP.aln (pc := 98) hC dX6_tryThing_98 rfl ?_
        refine WP.iln (pc := 99) hC dX6_tryThing_99 rfl ?_
        refine WP.iconst (pc := 100) hC dX6_tryThing_100 1 (by decide) ?_
        refine WP.isub (pc := 101) hC dX6_tryThing_101 ?_
        rw [show nI a - 1 = nI (a - 1) from pk_sub (b := 1) (by omega)]
        refine WP.callVI (pc := 102) hC dX6_tryThing_102 (k_X6_isReader _ F L nr ns (nI (a - 1)) hM) ml_X6_111 rfl rfl (by decide) rfl (Nat.le_of_ble_eq_true rfl) ⟨by decide, by decide⟩ ?_
        rw [hbs (a - 1) (by omega) nr hr5]
        refine WP.ifeq (pc := 105) hC dX6_tryThing_105 141 (by decide) (fun h105 => ?_) (fun h105 => ?_)
        · refine WP.iconst (pc := 141) hC dX6_tryThing_141 0 (by decide) ?_
          refine WP.zret (pc := 142) hC rfl (by first | exact Or.inl rfl | exact Or.inr rfl | exact b2_01 _) dX6_tryThing_142 ?_ ?_ ?_
          all_goals (first | rfl | (simp [tyB, h1, h47, h95, h105, h113, hy, b2]; done) | (simp [tyF, h1, h47, h95, h105, h113, hy]; done) | (simp [tyB, h1, h47, h95, h105, h113, hy, i_nle.mp h134, b2]; done) | (simp [tyB, h1, h47, h95, h105, h113, hy, i_nlt.mpr h134, b2]; done) | (rw [b2_0, decide_eq_false_iff_not] at h113; first | (simp [tyB, h1, h47, h95, h105, h113, b2]; done) | (simp [tyF, h1, h47, h95, h105, h113]; done)) | (rw [b2_0, decide_eq_false_iff_not] at h105; first | (simp [tyB, h1, h47, h95, h105, b2]; done) | (simp [tyF, h1, h47, h95, h105]; done)) | (rw [nl6] at h95; have h95 : ¬ a < 6 := (by omega); first | (simp [tyB, h1, h47, h95, b2]; done) | (simp [tyF, h1, h47, h95]; done)))
        · rw [b2_n0, decide_eq_true_eq] at h105
          refine WP.aln (pc := 108) hC dX6_tryThing_108 rfl ?_
          refine WP.iln (pc := 109) hC dX6_tryThing_109 rfl ?_
          refine WP.callVI (pc := 110) hC dX6_tryThing_110 (k_X6_isSample _ F L nr ns (nI c) hM) ml_X6_118 rfl rfl (by decide) rfl (Nat.le_of_ble_eq_true rfl) ⟨by decide, by decide⟩ ?_
          rw [hbs c hc ns (by omega)]
          refine WP.ifeq (pc := 113) hC dX6_tryThing_113 141 (by decide) (fun h113 => ?_) (fun h113 => ?_)
          · refine WP.iconst (pc := 141) hC dX6_tryThing_141 0 (by decide) ?_
            refine WP.zret (pc := 142) hC rfl (by first | exact Or.inl rfl | exact Or.inr rfl | exact b2_01 _) dX6_tryThing_142 ?_ ?_ ?_
            all_goals (first | rfl | (simp [tyB, h1, h47, h95, h105, h113, hy, b2]; done) | (simp [tyF, h1, h47, h95, h105, h113, hy]; done) | (simp [tyB, h1, h47, h95, h105, h113, hy, i_nle.mp h134, b2]; done) | (simp [tyB, h1, h47, h95, h105, h113, hy, i_nlt.mpr h134, b2]; done) | (rw [b2_0, decide_eq_false_iff_not] at h113; first | (simp [tyB, h1, h47, h95, h105, h113, b2]; done) | (simp [tyF, h1, h47, h95, h105, h113]; done)) | (rw [b2_0, decide_eq_false_iff_not] at h105; first | (simp [tyB, h1, h47, h95, h105, b2]; done) | (simp [tyF, h1, h47, h95, h105]; done)) | (rw [nl6] at h95; have h95 : ¬ a < 6 := (by omega); first | (simp [tyB, h1, h47, h95, b2]; done) | (simp [tyF, h1, h47, h95]; done)))
          · rw [b2_n0, decide_eq_true_eq] at h113
            refine WP.aln (pc := 116) hC dX6_tryThing_116 rfl ?_
            refine WP.iconst (pc := 117) hC dX6_tryThing_117 1 (by decide) ?_
            refine WP.iln (pc := 118) hC dX6_tryThing_118 rfl ?_
            refine WP.iconst (pc := 119) hC dX6_tryThing_119 1 (by decide) ?_
            refine WP.isub (pc := 120) hC dX6_tryThing_120 ?_
            rw [show nI a - 1 = nI (a - 1) from pk_sub (b := 1) (by omega)]
            refine WP.iln (pc := 121) hC dX6_tryThing_121 rfl ?_
            refine WP.callVI (pc := 122) hC dX6_tryThing_122 (k_X6_readOn _ F L 1 (a - 1) c (by decide) (by omega) (by omega)) ml_X6_134 rfl rfl (by decide) rfl (Nat.le_of_ble_eq_true rfl) ⟨by decide, by decide⟩ ?_
            generalize hy : sayM F 1 c (a - 1) = y
            refine WP.ifeq (pc := 125) hC dX6_tryThing_125 137 (by decide) (fun h125 => ?_) (fun h125 => ?_)
            · first | (rw [b2_0] at h125; subst h125) | skip
              refine WP.iconst (pc := 137) hC dX6_tryThing_137 1 (by decide) ?_
              refine WP.goto (pc := 138) hC dX6_tryThing_138 142 (by decide) ?_
              refine WP.zret (pc := 142) hC rfl (by first | exact Or.inl rfl | exact Or.inr rfl | exact b2_01 _) dX6_tryThing_142 ?_ ?_ ?_
              all_goals (first | rfl | (simp [tyB, h1, h47, h95, h105, h113, hy, b2]; done) | (simp [tyF, h1, h47, h95, h105, h113, hy]; done) | (simp [tyB, h1, h47, h95, h105, h113, hy, i_nle.mp h134, b2]; done) | (simp [tyB, h1, h47, h95, h105, h113, hy, i_nlt.mpr h134, b2]; done) | (rw [b2_0, decide_eq_false_iff_not] at h113; first | (simp [tyB, h1, h47, h95, h105, h113, b2]; done) | (simp [tyF, h1, h47, h95, h105, h113]; done)) | (rw [b2_0, decide_eq_false_iff_not] at h105; first | (simp [tyB, h1, h47, h95, h105, b2]; done) | (simp [tyF, h1, h47, h95, h105]; done)) | (rw [nl6] at h95; have h95 : ¬ a < 6 := (by omega); first | (simp [tyB, h1, h47, h95, b2]; done) | (simp [tyF, h1, h47, h95]; done)))
            · rw [b2_n0] at h125
              subst h125
              refine WP.aln (pc := 128) hC dX6_tryThing_128 rfl ?_
              refine WP.gf (pc := 129) hC dX6_tryThing_129 fl_X6_19 (by decide) rfl rfl ?_
              refine WP.iln (pc := 132) hC dX6_tryThing_132 rfl ?_
              refine WP.ial (pc := 133) hC dX6_tryThing_133 c rfl (by omega) (by decide) rfl (by decide) ?_
              rw [show rdM F 1 (a - 1) c true 4 c = F 4 c from rfl]
              refine WP.ifle (pc := 134) hC dX6_tryThing_134 141 (by decide) (fun h134 => ?_) (fun h134 => ?_)
              · refine WP.iconst (pc := 141) hC dX6_tryThing_141 0 (by decide) ?_
                refine WP.zret (pc := 142) hC rfl (by first | exact Or.inl rfl | exact Or.inr rfl | exact b2_01 _) dX6_tryThing_142 ?_ ?_ ?_
                all_goals (first | rfl | (simp [tyB, h1, h47, h95, h105, h113, hy, b2]; done) | (simp [tyF, h1, h47, h95, h105, h113, hy]; done) | (simp [tyB, h1, h47, h95, h105, h113, hy, i_nle.mp h134, b2]; done) | (simp [tyB, h1, h47, h95, h105, h113, hy, i_nlt.mpr h134, b2]; done) | (rw [b2_0, decide_eq_false_iff_not] at h113; first | (simp [tyB, h1, h47, h95, h105, h113, b2]; done) | (simp [tyF, h1, h47, h95, h105, h113]; done)) | (rw [b2_0, decide_eq_false_iff_not] at h105; first | (simp [tyB, h1, h47, h95, h105, b2]; done) | (simp [tyF, h1, h47, h95, h105]; done)) | (rw [nl6] at h95; have h95 : ¬ a < 6 := (by omega); first | (simp [tyB, h1, h47, h95, b2]; done) | (simp [tyF, h1, h47, h95]; done)))
              · first | (rw [b2_0] at h125; subst h125) | skip
                refine WP.iconst (pc := 137) hC dX6_tryThing_137 1 (by decide) ?_
                refine WP.goto (pc := 138) hC dX6_tryThing_138 142 (by decide) ?_
                refine WP.zret (pc := 142) hC rfl (by first | exact Or.inl rfl | exact Or.inr rfl | exact b2_01 _) dX6_tryThing_142 ?_ ?_ ?_
                all_goals (first | rfl | (simp [tyB, h1, h47, h95, h105, h113, hy, b2]; done) | (simp [tyF, h1, h47, h95, h105, h113, hy]; done) | (simp [tyB, h1, h47, h95, h105, h113, hy, i_nle.mp h134, b2]; done) | (simp [tyB, h1, h47, h95, h105, h113, hy, i_nlt.mpr h134, b2]; done) | (rw [b2_0, decide_eq_false_iff_not] at h113; first | (simp [tyB, h1, h47, h95, h105, h113, b2]; done) | (simp [tyF, h1, h47, h95, h105, h113]; done)) | (rw [b2_0, decide_eq_false_iff_not] at h105; first | (simp [tyB, h1, h47, h95, h105, b2]; done) | (simp [tyF, h1, h47, h95, h105]; done)) | (rw [nl6] at h95; have h95 : ¬ a < 6 := (by omega); first | (simp [tyB, h1, h47, h95, b2]; done) | (simp [tyF, h1, h47, h95]; done)))
    · rw [na6] at h47
      refine WP.aln (pc := 50) hC dX6_tryThing_50 rfl ?_
      refine WP.iln (pc := 51) hC dX6_tryThing_51 rfl ?_
      refine WP.callVI (pc := 52) hC dX6_tryThing_52 (k_X6_isReader _ F L nr ns (nI c) hM) ml_X6_111 rfl rfl (by decide) rfl (Nat.le_of_ble_eq_true rfl) ⟨by decide, by decide⟩ ?_
      rw [hbs c hc nr hr5]
      refine WP.ifeq (pc := 55) hC dX6_tryThing_55 74 (by decide) (fun h55 => ?_) (fun h55 => ?_)
      · refine WP.iconst (pc := 74) hC dX6_tryThing_74 0 (by decide) ?_
        refine WP.isn (lv' := [_, _, _, _]) (pc := 75) hC dX6_tryThing_75 rfl (by decide) rfl ?_
        refine WP.iln (pc := 76) hC dX6_tryThing_76 rfl ?_
        refine WP.ifeq (pc := 77) hC dX6_tryThing_77 90 (by decide) (fun h77 => ?_) (fun h77 => absurd h77 (by decide))
        refine WP.iln (pc := 90) hC dX6_tryThing_90 rfl ?_
        refine WP.zret (pc := 91) hC rfl (by first | exact Or.inl rfl | exact Or.inr rfl | exact b2_01 _) dX6_tryThing_91 ?_ ?_ ?_
        all_goals (first | rfl | (simp [tyB, h47, h55, i_nle.mp h67, b2]; done) | (simp [tyF, h47, h55, i_nle.mp h67]; done) | (simp [tyB, h47, h55, i_nlt.mpr h67, b2]; done) | (simp [tyF, h47, h55, i_nlt.mpr h67]; done) | (rw [b2_0, decide_eq_false_iff_not] at h55; simp [tyB, h47, h55, b2]; done) | (rw [b2_0, decide_eq_false_iff_not] at h55; simp [tyF, h47, h55]; done))
      · rw [b2_n0, decide_eq_true_eq] at h55
        refine WP.aln (pc := 58) hC dX6_tryThing_58 rfl ?_
        refine WP.gf (pc := 59) hC dX6_tryThing_59 fl_X6_22 (by decide) rfl rfl ?_
        refine WP.bipush (pc := 62) hC dX6_tryThing_62 9 (by decide) ?_
        refine WP.iln (pc := 64) hC dX6_tryThing_64 rfl ?_
        refine WP.iadd (pc := 65) hC dX6_tryThing_65 ?_
        rw [show (9 : Int32) + nI c = nI (9 + c) from nI_add 9 c]
        refine WP.ial (pc := 66) hC dX6_tryThing_66 (9 + c) rfl (by omega) (by decide) rfl (by decide) ?_
        refine WP.ifle (pc := 67) hC dX6_tryThing_67 74 (by decide) (fun h67 => ?_) (fun h67 => ?_)
        · refine WP.iconst (pc := 74) hC dX6_tryThing_74 0 (by decide) ?_
          refine WP.isn (lv' := [_, _, _, _]) (pc := 75) hC dX6_tryThing_75 rfl (by decide) rfl ?_
          refine WP.iln (pc := 76) hC dX6_tryThing_76 rfl ?_
          refine WP.ifeq (pc := 77) hC dX6_tryThing_77 90 (by decide) (fun h77 => ?_) (fun h77 => absurd h77 (by decide))
          refine WP.iln (pc := 90) hC dX6_tryThing_90 rfl ?_
          refine WP.zret (pc := 91) hC rfl (by first | exact Or.inl rfl | exact Or.inr rfl | exact b2_01 _) dX6_tryThing_91 ?_ ?_ ?_
          all_goals (first | rfl | (simp [tyB, h47, h55, i_nle.mp h67, b2]; done) | (simp [tyF, h47, h55, i_nle.mp h67]; done) | (simp [tyB, h47, h55, i_nlt.mpr h67, b2]; done) | (simp [tyF, h47, h55, i_nlt.mpr h67]; done) | (rw [b2_0, decide_eq_false_iff_not] at h55; simp [tyB, h47, h55, b2]; done) | (rw [b2_0, decide_eq_false_iff_not] at h55; simp [tyF, h47, h55]; done))
        · refine WP.iconst (pc := 70) hC dX6_tryThing_70 1 (by decide) ?_
          refine WP.goto (pc := 71) hC dX6_tryThing_71 75 (by decide) ?_
          refine WP.isn (lv' := [_, _, _, _]) (pc := 75) hC dX6_tryThing_75 rfl (by decide) rfl ?_
          refine WP.iln (pc := 76) hC dX6_tryThing_76 rfl ?_
          refine WP.ifeq (pc := 77) hC dX6_tryThing_77 90 (by decide) (fun h77 => absurd h77 (by decide)) (fun h77 => ?_)
          refine WP.aln (pc := 80) hC dX6_tryThing_80 rfl ?_
          refine WP.gf (pc := 81) hC dX6_tryThing_81 fl_X6_22 (by decide) rfl rfl ?_
          refine WP.bipush (pc := 84) hC dX6_tryThing_84 9 (by decide) ?_
          refine WP.iln (pc := 86) hC dX6_tryThing_86 rfl ?_
          refine WP.iadd (pc := 87) hC dX6_tryThing_87 ?_
          rw [show (9 : Int32) + nI c = nI (9 + c) from nI_add 9 c]
          refine WP.iconst (pc := 88) hC dX6_tryThing_88 0 (by decide) ?_
          refine WP.ias (pc := 89) hC dX6_tryThing_89 (9 + c) rfl (by omega) (by decide) rfl rfl (by decide) ?_
          refine WP.iln (pc := 90) hC dX6_tryThing_90 rfl ?_
          refine WP.zret (pc := 91) hC rfl (by first | exact Or.inl rfl | exact Or.inr rfl | exact b2_01 _) dX6_tryThing_91 ?_ ?_ ?_
          all_goals (first | rfl | (simp [tyB, h47, h55, i_nle.mp h67, b2]; done) | (simp [tyF, h47, h55, i_nle.mp h67]; done) | (simp [tyB, h47, h55, i_nlt.mpr h67, b2]; done) | (simp [tyF, h47, h55, i_nlt.mpr h67]; done) | (rw [b2_0, decide_eq_false_iff_not] at h55; simp [tyB, h47, h55, b2]; done) | (rw [b2_0, decide_eq_false_iff_not] at h55; simp [tyF, h47, h55]; done))
  · rw [na0] at h1
    refine WP.bipush (pc := 4) hC dX6_tryThing_4 9 (by decide) ?_
    refine WP.iln (pc := 6) hC dX6_tryThing_6 rfl ?_
    refine WP.ifne (pc := 7) hC dX6_tryThing_7 15 (by decide) (fun h7 => ?_) (fun h7 => ?_)
    · rw [nc0] at h7
      refine WP.bipush (pc := 15) hC dX6_tryThing_15 8 (by decide) ?_
      refine WP.iadd (pc := 17) hC dX6_tryThing_17 ?_
      have hp18 : plM c < 18 := by unfold plM; split <;> decide
      first | (have hpl : (9 : Int32) + 7 = nI (plM c) := (by unfold plM; rw [if_pos h7]; rfl)) | (have hpl : (9 : Int32) + 8 = nI (plM c) := (by unfold plM; rw [if_neg h7]; rfl))
      refine WP.isn (lv' := [_, _, _, _]) (pc := 18) hC dX6_tryThing_18 rfl (by decide) rfl ?_
      refine WP.aln (pc := 19) hC dX6_tryThing_19 rfl ?_
      refine WP.gf (pc := 20) hC dX6_tryThing_20 fl_X6_22 (by decide) rfl rfl ?_
      refine WP.iln (pc := 23) hC dX6_tryThing_23 rfl ?_
      refine WP.iconst (pc := 24) hC dX6_tryThing_24 1 (by decide) ?_
      refine WP.aln (pc := 25) hC dX6_tryThing_25 rfl ?_
      refine WP.gf (pc := 26) hC dX6_tryThing_26 fl_X6_22 (by decide) rfl rfl ?_
      refine WP.iln (pc := 29) hC dX6_tryThing_29 rfl ?_
      refine WP.ial (pc := 30) hC dX6_tryThing_30 (plM c) hpl hp18 (by decide) rfl (by decide) ?_
      refine WP.isub (pc := 31) hC dX6_tryThing_31 ?_
      refine WP.ias (pc := 32) hC dX6_tryThing_32 (plM c) hpl hp18 (by decide) rfl rfl (by decide) ?_
      refine WP.iln (pc := 33) hC dX6_tryThing_33 rfl ?_
      refine WP.iconst (pc := 34) hC dX6_tryThing_34 2 (by decide) ?_
      refine WP.icge (pc := 35) hC dX6_tryThing_35 42 (by decide) (fun h35 => ?_) (fun h35 => ?_)
      · refine WP.iconst (pc := 42) hC dX6_tryThing_42 0 (by decide) ?_
        refine WP.zret (pc := 43) hC rfl (by first | exact Or.inl rfl | exact Or.inr rfl | exact b2_01 _) dX6_tryThing_43 ?_ ?_ ?_
        all_goals (first | rfl | (rw [nc2] at h35; simp [tyB, h1, b2, h35]; done) | (rw [nc2] at h35; simp [tyB, h1, b2]; omega) | (simp [tyF, h1]; done))
      · refine WP.iconst (pc := 38) hC dX6_tryThing_38 1 (by decide) ?_
        refine WP.goto (pc := 39) hC dX6_tryThing_39 43 (by decide) ?_
        refine WP.zret (pc := 43) hC rfl (by first | exact Or.inl rfl | exact Or.inr rfl | exact b2_01 _) dX6_tryThing_43 ?_ ?_ ?_
        all_goals (first | rfl | (rw [nc2] at h35; simp [tyB, h1, b2, h35]; done) | (rw [nc2] at h35; simp [tyB, h1, b2]; omega) | (simp [tyF, h1]; done))
    · rw [nc0] at h7
      refine WP.bipush (pc := 10) hC dX6_tryThing_10 7 (by decide) ?_
      refine WP.goto (pc := 12) hC dX6_tryThing_12 17 (by decide) ?_
      refine WP.iadd (pc := 17) hC dX6_tryThing_17 ?_
      have hp18 : plM c < 18 := by unfold plM; split <;> decide
      first | (have hpl : (9 : Int32) + 7 = nI (plM c) := (by unfold plM; rw [if_pos h7]; rfl)) | (have hpl : (9 : Int32) + 8 = nI (plM c) := (by unfold plM; rw [if_neg h7]; rfl))
      refine WP.isn (lv' := [_, _, _, _]) (pc := 18) hC dX6_tryThing_18 rfl (by decide) rfl ?_
      refine WP.aln (pc := 19) hC dX6_tryThing_19 rfl ?_
      refine WP.gf (pc := 20) hC dX6_tryThing_20 fl_X6_22 (by decide) rfl rfl ?_
      refine WP.iln (pc := 23) hC dX6_tryThing_23 rfl ?_
      refine WP.iconst (pc := 24) hC dX6_tryThing_24 1 (by decide) ?_
      refine WP.aln (pc := 25) hC dX6_tryThing_25 rfl ?_
      refine WP.gf (pc := 26) hC dX6_tryThing_26 fl_X6_22 (by decide) rfl rfl ?_
      refine WP.iln (pc := 29) hC dX6_tryThing_29 rfl ?_
      refine WP.ial (pc := 30) hC dX6_tryThing_30 (plM c) hpl hp18 (by decide) rfl (by decide) ?_
      refine WP.isub (pc := 31) hC dX6_tryThing_31 ?_
      refine WP.ias (pc := 32) hC dX6_tryThing_32 (plM c) hpl hp18 (by decide) rfl rfl (by decide) ?_
      refine WP.iln (pc := 33) hC dX6_tryThing_33 rfl ?_
      refine WP.iconst (pc := 34) hC dX6_tryThing_34 2 (by decide) ?_
      refine WP.icge (pc := 35) hC dX6_tryThing_35 42 (by decide) (fun h35 => ?_) (fun h35 => ?_)
      · refine WP.iconst (pc := 42) hC dX6_tryThing_42 0 (by decide) ?_
        refine WP.zret (pc := 43) hC rfl (by first | exact Or.inl rfl | exact Or.inr rfl | exact b2_01 _) dX6_tryThing_43 ?_ ?_ ?_
        all_goals (first | rfl | (rw [nc2] at h35; simp [tyB, h1, b2, h35]; done) | (rw [nc2] at h35; simp [tyB, h1, b2]; omega) | (simp [tyF, h1]; done))
      · refine WP.iconst (pc := 38) hC dX6_tryThing_38 1 (by decide) ?_
        refine WP.goto (pc := 39) hC dX6_tryThing_39 43 (by decide) ?_
        refine WP.zret (pc := 43) hC rfl (by first | exact Or.inl rfl | exact Or.inr rfl | exact b2_01 _) dX6_tryThing_43 ?_ ?_ ?_
        all_goals (first | rfl | (rw [nc2] at h35; simp [tyB, h1, b2, h35]; done) | (rw [nc2] at h35; simp [tyB, h1, b2]; omega) | (simp [tyF, h1]; done))
