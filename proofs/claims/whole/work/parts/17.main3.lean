/-! ===== NewRays: judge, winters, gone ===== -/
theorem tens_eq : ∀ k, k < 9 → tensV.getD k 0 = nI (10 ^ k) := by decide
theorem pow_le8 : ∀ k, k < 9 → 0 < 10 ^ k ∧ 10 ^ k < 2 ^ 31 := by decide
theorem pow_ne : ∀ k, k < 9 → ¬ nI (10 ^ k) = 0 := by decide
theorem ixm {n : Int32} {K : Nat} (h1 : 1 ≤ n) (h2 : n ≤ nI K) (hK : K < 100) : ∃ m, 1 ≤ m ∧ m ≤ K ∧ n = nI m := by
  have e1 : (1 : Int32).toInt = 1 := by decide
  have e0 : (0 : Int32).toInt = 0 := by decide
  obtain ⟨m, hm, rfl⟩ := nI_of (x := n) (i_nlt.mpr (by rw [i_le] at h1 ⊢; omega))
  exact ⟨m, (nI_leI (a := 1) (by decide) hm).mp h1, (nI_leI hm (by omega)).mp h2, rfl⟩
def rowOk (row : Int32) (k : Nat) : Bool := decide (0 ≤ row) && decide (row < nI (10 ^ k))
def fig (w b : Nat) : Nat := w / 10 ^ b % 10
theorem fig_lt (w b : Nat) : fig w b < 10 := Nat.mod_lt _ (by decide)
/-- the rows that the trial leaves -/
def TG (F G : FF) : Prop := (∀ i, i ≠ 36 → G i = F i) ∧ BZ G
theorem upF_row {F : FF} {i a : Nat} {f : Nat → Int32} (h : a ≠ i) : upF F i f a = F a := by simp [upF, h]
theorem up2_row {F : FF} {i j a : Nat} {v : Int32} (h : a ≠ i) : up2 F i j v a = F a := upF_row h
theorem cpB_row {F : FF} {b c a : Nat} (h : a ≠ b) : cpB F b c a = F a := by
  unfold cpB
  rw [up2_row h, up2_row h, up2_row h, up2_row h, up2_row h]
theorem tkR_row {F : FF} {b i j a : Nat} {y : Bool} (h : a ≠ b) : tkR F b i j y a = F a := by
  unfold tkR
  rw [up2_row h, up2_row h, up2_row h]
theorem BZ.up {F : FF} (h : BZ F) {b k : Nat} {v : Int32} (hv : k = 3 ∨ k = 4 → v = 0 ∨ v = 1) : BZ (up2 F b k v) := by
  intro c h1 h2
  have hc := h c h1 h2
  constructor
  · rw [up2_at]
    split
    · rename_i q
      exact hv (Or.inl q.2.symm)
    · exact hc.1
  · rw [up2_at]
    split
    · rename_i q
      exact hv (Or.inr q.2.symm)
    · exact hc.2
theorem BZ.cp {F : FF} (h : BZ F) {b c : Nat} (h1 : 19 ≤ c) (h2 : c < 37) : BZ (cpB F b c) := by
  unfold cpB
  exact BZ.up (BZ.up (BZ.up (BZ.up (BZ.up h (by omega)) (by omega)) (by omega)) (fun _ => (h c h1 h2).1)) (fun _ => (h c h1 h2).2)
theorem BZ.tk {F : FF} (h : BZ F) {b i j : Nat} {y : Bool} : BZ (tkR F b i j y) := by
  unfold tkR
  exact BZ.up (BZ.up (BZ.up h (by omega)) (by omega)) (by omega)
theorem TG.nr {F G : FF} {nr ns : Nat} (h : TG F G) (hN : NR F nr ns) : NR G nr ns := by
  unfold NR
  rw [h.1 3 (by decide)]
  exact hN
theorem TG.cp {F : FF} (h : BZ F) : TG F (cpB F 36 19) := ⟨fun i hi => cpB_row hi, h.cp (by decide) (by decide)⟩
theorem TG.up {F G : FF} (h : TG F G) {k : Nat} {v : Int32} (hv : k = 3 ∨ k = 4 → v = 0 ∨ v = 1) : TG F (up2 G 36 k v) := ⟨fun i hi => (up2_row hi).trans (h.1 i hi), h.2.up hv⟩
theorem TG.tk {F G : FF} (h : TG F G) {i j : Nat} {y : Bool} : TG F (tkR G 36 i j y) := ⟨fun a ha => (tkR_row ha).trans (h.1 a ha), h.2.tk⟩
def yesT (G : FF) (i j : Nat) : Bool := yesAt G 36 i j (tru (G 36 3)) (tru (G 36 4))
def stB (G : FF) (nr ns a c : Nat) : Bool :=
  if a = 0 then decide (c < 2) else if a ≤ 5 then (decide (a - 1 < nr) && decide (c < ns)) && (!(yesT G (a - 1) c) || decide (0 < G 7 c)) else
  if a = 6 then decide (c < nr) && !(decide (rdg (G 36 2) c = 0)) else false
def stF (G : FF) (nr ns a c : Nat) : FF :=
  if a = 0 then (if c = 0 then up2 G 36 3 (nzI (G 36 3)) else if c = 1 then up2 G 36 4 (nzI (G 36 4)) else G) else
  if a ≤ 5 then (if a - 1 < nr ∧ c < ns then tkR G 36 (a - 1) c (yesT G (a - 1) c) else G) else
  if a = 6 then (if c < nr ∧ ¬ rdg (G 36 2) c = 0 then up2 G 36 2 (setR (G 36 2) c 0) else G) else G
theorem stB_x {G : FF} {nr ns a c : Nat} (h1 : a = 0 → 2 ≤ c) (h2 : ¬ (1 ≤ a ∧ a ≤ 5)) (h3 : a = 6 → c < nr → rdg (G 36 2) c = 0) : stB G nr ns a c = false ∧ stF G nr ns a c = G := by
  unfold stB stF
  by_cases q : a = 0
  · have := h1 q
    simp [q, show ¬ c = 0 by omega, show ¬ c = 1 by omega, show ¬ c < 2 by omega]
  · rw [if_neg q, if_neg q, if_neg (show ¬ a ≤ 5 by omega), if_neg (show ¬ a ≤ 5 by omega)]
    by_cases q6 : a = 6
    · by_cases qc : c < nr
      · simp [q6, qc, h3 q6 qc]
      · simp [q6, qc]
    · simp [q6]
theorem TG.st {F G : FF} (h : TG F G) {nr ns a c : Nat} : TG F (stF G nr ns a c) := by
  unfold stF
  (repeat' split) <;> first | exact h | exact h.tk | exact h.up (fun _ => nzI_01 _) | exact h.up (by omega)
def jdN (nr ns w : Nat) : Nat → Nat → FF → Int32 × FF
  | 0, _, G => (-9, G)
  | f + 1, k, G => if stB G nr ns (fig w (2 * f + 1)) (fig w (2 * f)) = true then jdN nr ns w f (k + 1) (stF G nr ns (fig w (2 * f + 1)) (fig w (2 * f))) else (nI k, stF G nr ns (fig w (2 * f + 1)) (fig w (2 * f)))
def jdOk (n row : Int32) : Bool := decide (1 ≤ n) && decide (n ≤ 4) && rowOk row (2 * ix n)
def jdR (F : FF) (nr ns : Nat) (n row : Int32) : Int32 := if jdOk n row = true then (jdN nr ns (ix row) (ix n) 0 (cpB F 36 19)).1 else -2
def jdF (F : FF) (nr ns : Nat) (n row : Int32) : FF := if jdOk n row = true then (jdN nr ns (ix row) (ix n) 0 (cpB F 36 19)).2 else F

set_option maxHeartbeats 4000000 in
theorem k_X5_hasFigures (l : Launch) (F : FF) (L : Int64) (wd : WD) (row : Int32) (k : Nat) (hk : k < 9) : CI l yX5_hasFigures cX5_hasFigures 2 (some .boolean) (rmx 0 0) wd [.int row, .int (nI k)] F L (b2 (rowOk row k)) F L := by
  refine mkI [some (.int row), some (.int (nI k))] 0 (by decide) rfl (Nat.le_of_ble_eq_true rfl) ?_
  intro x d hx hC
  subst hx
  have hC : Cx x cX5_hasFigures 2 RX5 (some .boolean) (rmx 0 0) wd d := hC
  refine WP.iln (pc := 0) hC dX5_hasFigures_0 rfl ?_
  refine WP.iflt (pc := 1) hC dX5_hasFigures_1 29 (by decide) (fun h1 => ?_) (fun h1 => ?_)
  · refine WP.iconst (pc := 29) hC dX5_hasFigures_29 0 (by decide) ?_
    refine WP.zret (pc := 30) hC rfl (by first | exact Or.inl rfl | exact Or.inr rfl | exact b2_01 _) dX5_hasFigures_30 ?_ ?_ ?_
    all_goals (first | rfl | (simp [rowOk, b2, i_nlt.mp h1, i_nle.mp h22]; done) | (simp [rowOk, b2, i_nlt.mpr h22]; done) | (simp [rowOk, b2, i_nle.mpr h1]; done))
  · refine WP.iln (pc := 4) hC dX5_hasFigures_4 rfl ?_
    refine WP.iflt (pc := 5) hC dX5_hasFigures_5 29 (by decide) (fun h5 => absurd h5 (nI_pos (by omega))) (fun h5 => ?_)
    refine WP.iln (pc := 8) hC dX5_hasFigures_8 rfl ?_
    refine WP.lenT (pc := 9) hC dX5_hasFigures_9 fs_X5_281 dX5_hasFigures_12 ?_
    refine WP.icge (pc := 13) hC dX5_hasFigures_13 29 (by decide) (fun h13 => absurd h13 (nI_ge (b := 9) (a := k) hk (by decide))) (fun h13 => ?_)
    refine WP.iln (pc := 16) hC dX5_hasFigures_16 rfl ?_
    refine WP.ldT (pc := 17) hC dX5_hasFigures_17 k rfl hk rfl fs_X5_281 dX5_hasFigures_20 dX5_hasFigures_21 ?_
    rw [tens_eq k hk]
    refine WP.icge (pc := 22) hC dX5_hasFigures_22 29 (by decide) (fun h22 => ?_) (fun h22 => ?_)
    · refine WP.iconst (pc := 29) hC dX5_hasFigures_29 0 (by decide) ?_
      refine WP.zret (pc := 30) hC rfl (by first | exact Or.inl rfl | exact Or.inr rfl | exact b2_01 _) dX5_hasFigures_30 ?_ ?_ ?_
      all_goals (first | rfl | (simp [rowOk, b2, i_nlt.mp h1, i_nle.mp h22]; done) | (simp [rowOk, b2, i_nlt.mpr h22]; done) | (simp [rowOk, b2, i_nle.mpr h1]; done))
    · refine WP.iconst (pc := 25) hC dX5_hasFigures_25 1 (by decide) ?_
      refine WP.goto (pc := 26) hC dX5_hasFigures_26 30 (by decide) ?_
      refine WP.zret (pc := 30) hC rfl (by first | exact Or.inl rfl | exact Or.inr rfl | exact b2_01 _) dX5_hasFigures_30 ?_ ?_ ?_
      all_goals (first | rfl | (simp [rowOk, b2, i_nlt.mp h1, i_nle.mp h22]; done) | (simp [rowOk, b2, i_nlt.mpr h22]; done) | (simp [rowOk, b2, i_nle.mpr h1]; done))
set_option maxHeartbeats 4000000 in
theorem k_X5_figure (l : Launch) (F : FF) (L : Int64) (wd : WD) (w b : Nat) (hw : w < 2 ^ 31) (hb : b < 9) : CI l yX5_figure cX5_figure 2 (some .int) (rmx 0 0) wd [.int (nI w), .int (nI b)] F L (nI (fig w b)) F L := by
  refine mkI [some (.int (nI w)), some (.int (nI b))] 0 (by decide) rfl (Nat.le_of_ble_eq_true rfl) ?_
  intro x d hx hC
  subst hx
  have hC : Cx x cX5_figure 2 RX5 (some .int) (rmx 0 0) wd d := hC
  refine WP.iln (pc := 0) hC dX5_figure_0 rfl ?_
  refine WP.iflt (pc := 1) hC dX5_figure_1 12 (by decide) (fun h1 => absurd h1 (nI_pos (by omega))) (fun h1 => ?_)
  refine WP.iln (pc := 4) hC dX5_figure_4 rfl ?_
  refine WP.lenT (pc := 5) hC dX5_figure_5 fs_X5_281 dX5_figure_8 ?_
  refine WP.iclt (pc := 9) hC dX5_figure_9 14 (by decide) (fun h9 => ?_) (fun h9 => absurd h9 (fun q => q (nI_lt (b := 9) hb (by decide))))
  refine WP.iln (pc := 14) hC dX5_figure_14 rfl ?_
  refine WP.ldT (pc := 15) hC dX5_figure_15 b rfl hb rfl fs_X5_281 dX5_figure_18 dX5_figure_19 ?_
  rw [tens_eq b hb]
  refine WP.idiv (pc := 20) hC dX5_figure_20 (pow_ne b hb) ?_
  refine WP.bipush (pc := 21) hC dX5_figure_21 10 (by decide) ?_
  refine WP.irem (pc := 23) hC dX5_figure_23 (by decide) ?_
  refine WP.iret (pc := 24) hC rfl dX5_figure_24 ?_ ?_ ?_
  all_goals (first | rfl | (rw [pk_div hw (pow_le8 b hb).1 (pow_le8 b hb).2]; exact pk_rem (a := w / 10 ^ b) (d := 10) (Nat.lt_of_le_of_lt (Nat.div_le_self _ _) hw) (by decide) (by decide)))
set_option maxHeartbeats 4000000 in
theorem k_X5_standsOnTrial (l : Launch) (F : FF) (L : Int64) (nr ns a c : Nat) (hN : NR F nr ns) (hZ : BZ F) (ha : a < 10) (hc : c < 10) : CI l yX5_standsOnTrial cX5_standsOnTrial 3 (some .boolean) (rmx 5 118) wN [.ref 0, .int (nI a), .int (nI c)] F L (b2 (stB F nr ns a c)) (stF F nr ns a c) L := by
  refine mkI [some (.ref 0), some (.int (nI a)), some (.int (nI c))] 0 (by decide) rfl (Nat.le_of_ble_eq_true rfl) ?_
  intro x d hx hC
  subst hx
  have hC : Cx x cX5_standsOnTrial 3 RX5 (some .boolean) (rmx 5 118) wN d := hC
  have hr5 := hN.2.2.1
  have hs4 := hN.2.2.2
  have na0 : nI a = 0 ↔ a = 0 := nI_eq (b := 0) (by omega) (by decide)
  have nc0 : nI c = 0 ↔ c = 0 := nI_eq (b := 0) (by omega) (by decide)
  have nc1 : nI c = 1 ↔ c = 1 := nI_eq (b := 1) (by omega) (by decide)
  have na6 : nI a = 6 ↔ a = 6 := nI_eq (b := 6) (by omega) (by decide)
  have na1 : nI a < 1 ↔ a < 1 := nI_ltI (b := 1) (by omega) (by decide)
  have na5 : 5 < nI a ↔ 5 < a := nI_ltI (a := 5) (by decide) (by omega)
  have hbs : ∀ k, k < 10 → hasB (nI k) nr = decide (k < nr) := fun k hk => by
    unfold hasB
    simp only [nI_ltI (show k < 2 ^ 31 by omega) (show nr < 2 ^ 31 by omega), nI_pos' (show k < 2 ^ 31 by omega), decide_true, Bool.true_and]
  have hbt : ∀ k, k < 10 → hasB (nI k) ns = decide (k < ns) := fun k hk => by
    unfold hasB
    simp only [nI_ltI (show k < 2 ^ 31 by omega) (show ns < 2 ^ 31 by omega), nI_pos' (show k < 2 ^ 31 by omega), decide_true, Bool.true_and]
  refine WP.iln (pc := 0) hC dX5_standsOnTrial_0 rfl ?_
  refine WP.ifne (pc := 1) hC dX5_standsOnTrial_1 32 (by decide) (fun h1 => ?_) (fun h1 => ?_)
  · try rw [na0] at h1
    try rw [nc0] at h5
    refine WP.iln (pc := 32) hC dX5_standsOnTrial_32 rfl ?_
    refine WP.ifne (pc := 33) hC dX5_standsOnTrial_33 65 (by decide) (fun h33 => ?_) (fun h33 => ?_)
    · try rw [na0] at h33
      try rw [nc1] at h38
      refine WP.iln (pc := 65) hC dX5_standsOnTrial_65 rfl ?_
      refine WP.iconst (pc := 66) hC dX5_standsOnTrial_66 1 (by decide) ?_
      refine WP.iclt (pc := 67) hC dX5_standsOnTrial_67 124 (by decide) (fun h67 => ?_) (fun h67 => ?_)
      · try rw [na1] at h67
        try rw [na5] at h72
        refine WP.iln (pc := 124) hC dX5_standsOnTrial_124 rfl ?_
        refine WP.bipush (pc := 125) hC dX5_standsOnTrial_125 6 (by decide) ?_
        refine WP.icne (pc := 127) hC dX5_standsOnTrial_127 152 (by decide) (fun h127 => ?_) (fun h127 => ?_)
        · try rw [na6] at h127
          try rw [b2_0, decide_eq_false_iff_not] at h138
          refine WP.iconst (pc := 152) hC dX5_standsOnTrial_152 0 (by decide) ?_
          refine WP.zret (pc := 153) hC rfl (by first | exact Or.inl rfl | exact Or.inr rfl | exact b2_01 _) dX5_standsOnTrial_153 ?_ ?_ ?_
          all_goals (first | rfl | (have hx := stB_x (G := F) (nr := nr) (ns := ns) (a := a) (c := c) (by omega) (by omega) (by first | exact fun _ _ => h149 | (intro q1 q2; omega)); first | (rw [hx.1]; rfl) | (rw [hx.2])))
        · refine WP.aln (pc := 130) hC dX5_standsOnTrial_130 rfl ?_
          refine WP.gf (pc := 131) hC dX5_standsOnTrial_131 fl_X5_19 (by decide) rfl rfl ?_
          refine WP.iln (pc := 134) hC dX5_standsOnTrial_134 rfl ?_
          refine WP.callVI (pc := 135) hC dX5_standsOnTrial_135 (k_X3_hasReader _ F L nr ns (nI c) hN) ml_X5_88 rfl rfl (by decide) rfl (Nat.le_of_ble_eq_true rfl) ⟨by decide, by decide⟩ ?_
          rw [hbs c hc]
          refine WP.ifeq (pc := 138) hC dX5_standsOnTrial_138 152 (by decide) (fun h138 => ?_) (fun h138 => ?_)
          · try rw [na6] at h127
            try rw [b2_0, decide_eq_false_iff_not] at h138
            refine WP.iconst (pc := 152) hC dX5_standsOnTrial_152 0 (by decide) ?_
            refine WP.zret (pc := 153) hC rfl (by first | exact Or.inl rfl | exact Or.inr rfl | exact b2_01 _) dX5_standsOnTrial_153 ?_ ?_ ?_
            all_goals (first | rfl | (have hx := stB_x (G := F) (nr := nr) (ns := ns) (a := a) (c := c) (by omega) (by omega) (by first | exact fun _ _ => h149 | (intro q1 q2; omega)); first | (rw [hx.1]; rfl) | (rw [hx.2])))
          · rw [b2_n0, decide_eq_true_eq] at h138
            refine WP.aln (pc := 141) hC dX5_standsOnTrial_141 rfl ?_
            refine WP.gf (pc := 142) hC dX5_standsOnTrial_142 fl_X5_52 (by decide) rfl rfl ?_
            refine WP.iln (pc := 145) hC dX5_standsOnTrial_145 rfl ?_
            refine WP.callVI (pc := 146) hC dX5_standsOnTrial_146 (k_X1_readingsOf _ F L 36 c (by decide)) ml_X5_100 rfl rfl (by decide) rfl (Nat.le_of_ble_eq_true rfl) ⟨by decide, by decide⟩ ?_
            refine WP.ifne (pc := 149) hC dX5_standsOnTrial_149 154 (by decide) (fun h149 => ?_) (fun h149 => ?_)
            · refine WP.aln (pc := 154) hC dX5_standsOnTrial_154 rfl ?_
              refine WP.gf (pc := 155) hC dX5_standsOnTrial_155 fl_X5_52 (by decide) rfl rfl ?_
              refine WP.iln (pc := 158) hC dX5_standsOnTrial_158 rfl ?_
              refine WP.iconst (pc := 159) hC dX5_standsOnTrial_159 0 (by decide) ?_
              refine WP.callVV (pc := 160) hC dX5_standsOnTrial_160 (k_X1_setReadings _ F L 36 c 0 (by decide)) ml_X5_139 rfl rfl (by decide) rfl (Nat.le_of_ble_eq_true rfl) ⟨by decide, by decide⟩ ?_
              refine WP.iconst (pc := 163) hC dX5_standsOnTrial_163 1 (by decide) ?_
              refine WP.zret (pc := 164) hC rfl (by first | exact Or.inl rfl | exact Or.inr rfl | exact b2_01 _) dX5_standsOnTrial_164 ?_ ?_ ?_
              all_goals (first | rfl | (rw [na6] at h127; subst h127; simp [stB, h138, h149, b2]; done) | (rw [na6] at h127; subst h127; simp [stF, h138, h149]; done))
            · try rw [na6] at h127
              try rw [b2_0, decide_eq_false_iff_not] at h138
              refine WP.iconst (pc := 152) hC dX5_standsOnTrial_152 0 (by decide) ?_
              refine WP.zret (pc := 153) hC rfl (by first | exact Or.inl rfl | exact Or.inr rfl | exact b2_01 _) dX5_standsOnTrial_153 ?_ ?_ ?_
              all_goals (first | rfl | (have hx := stB_x (G := F) (nr := nr) (ns := ns) (a := a) (c := c) (by omega) (by omega) (by first | exact fun _ _ => h149 | (intro q1 q2; omega)); first | (rw [hx.1]; rfl) | (rw [hx.2])))
      · refine WP.iln (pc := 70) hC dX5_standsOnTrial_70 rfl ?_
        refine WP.iconst (pc := 71) hC dX5_standsOnTrial_71 5 (by decide) ?_
        refine WP.icgt (pc := 72) hC dX5_standsOnTrial_72 124 (by decide) (fun h72 => ?_) (fun h72 => ?_)
        · try rw [na1] at h67
          try rw [na5] at h72
          refine WP.iln (pc := 124) hC dX5_standsOnTrial_124 rfl ?_
          refine WP.bipush (pc := 125) hC dX5_standsOnTrial_125 6 (by decide) ?_
          refine WP.icne (pc := 127) hC dX5_standsOnTrial_127 152 (by decide) (fun h127 => ?_) (fun h127 => ?_)
          · try rw [na6] at h127
            try rw [b2_0, decide_eq_false_iff_not] at h138
            refine WP.iconst (pc := 152) hC dX5_standsOnTrial_152 0 (by decide) ?_
            refine WP.zret (pc := 153) hC rfl (by first | exact Or.inl rfl | exact Or.inr rfl | exact b2_01 _) dX5_standsOnTrial_153 ?_ ?_ ?_
            all_goals (first | rfl | (have hx := stB_x (G := F) (nr := nr) (ns := ns) (a := a) (c := c) (by omega) (by omega) (by first | exact fun _ _ => h149 | (intro q1 q2; omega)); first | (rw [hx.1]; rfl) | (rw [hx.2])))
          · refine WP.aln (pc := 130) hC dX5_standsOnTrial_130 rfl ?_
            refine WP.gf (pc := 131) hC dX5_standsOnTrial_131 fl_X5_19 (by decide) rfl rfl ?_
            refine WP.iln (pc := 134) hC dX5_standsOnTrial_134 rfl ?_
            refine WP.callVI (pc := 135) hC dX5_standsOnTrial_135 (k_X3_hasReader _ F L nr ns (nI c) hN) ml_X5_88 rfl rfl (by decide) rfl (Nat.le_of_ble_eq_true rfl) ⟨by decide, by decide⟩ ?_
            rw [hbs c hc]
            refine WP.ifeq (pc := 138) hC dX5_standsOnTrial_138 152 (by decide) (fun h138 => ?_) (fun h138 => ?_)
            · try rw [na6] at h127
              try rw [b2_0, decide_eq_false_iff_not] at h138
              refine WP.iconst (pc := 152) hC dX5_standsOnTrial_152 0 (by decide) ?_
              refine WP.zret (pc := 153) hC rfl (by first | exact Or.inl rfl | exact Or.inr rfl | exact b2_01 _) dX5_standsOnTrial_153 ?_ ?_ ?_
              all_goals (first | rfl | (have hx := stB_x (G := F) (nr := nr) (ns := ns) (a := a) (c := c) (by omega) (by omega) (by first | exact fun _ _ => h149 | (intro q1 q2; omega)); first | (rw [hx.1]; rfl) | (rw [hx.2])))
            · rw [b2_n0, decide_eq_true_eq] at h138
              refine WP.aln (pc := 141) hC dX5_standsOnTrial_141 rfl ?_
              refine WP.gf (pc := 142) hC dX5_standsOnTrial_142 fl_X5_52 (by decide) rfl rfl ?_
              refine WP.iln (pc := 145) hC dX5_standsOnTrial_145 rfl ?_
              refine WP.callVI (pc := 146) hC dX5_standsOnTrial_146 (k_X1_readingsOf _ F L 36 c (by decide)) ml_X5_100 rfl rfl (by decide) rfl (Nat.le_of_ble_eq_true rfl) ⟨by decide, by decide⟩ ?_
              refine WP.ifne (pc := 149) hC dX5_standsOnTrial_149 154 (by decide) (fun h149 => ?_) (fun h149 => ?_)
              · refine WP.aln (pc := 154) hC dX5_standsOnTrial_154 rfl ?_
                refine WP.gf (pc := 155) hC dX5_standsOnTrial_155 fl_X5_52 (by decide) rfl rfl ?_
                refine WP.iln (pc := 158) hC dX5_standsOnTrial_158 rfl ?_
                refine WP.iconst (pc := 159) hC dX5_standsOnTrial_159 0 (by decide) ?_
                refine WP.callVV (pc := 160) hC dX5_standsOnTrial_160 (k_X1_setReadings _ F L 36 c 0 (by decide)) ml_X5_139 rfl rfl (by decide) rfl (Nat.le_of_ble_eq_true rfl) ⟨by decide, by decide⟩ ?_
                refine WP.iconst (pc := 163) hC dX5_standsOnTrial_163 1 (by decide) ?_
                refine WP.zret (pc := 164) hC rfl (by first | exact Or.inl rfl | exact Or.inr rfl | exact b2_01 _) dX5_standsOnTrial_164 ?_ ?_ ?_
                all_goals (first | rfl | (rw [na6] at h127; subst h127; simp [stB, h138, h149, b2]; done) | (rw [na6] at h127; subst h127; simp [stF, h138, h149]; done))
              · try rw [na6] at h127
                try rw [b2_0, decide_eq_false_iff_not] at h138
                refine WP.iconst (pc := 152) hC dX5_standsOnTrial_152 0 (by decide) ?_
                refine WP.zret (pc := 153) hC rfl (by first | exact Or.inl rfl | exact Or.inr rfl | exact b2_01 _) dX5_standsOnTrial_153 ?_ ?_ ?_
                all_goals (first | rfl | (have hx := stB_x (G := F) (nr := nr) (ns := ns) (a := a) (c := c) (by omega) (by omega) (by first | exact fun _ _ => h149 | (intro q1 q2; omega)); first | (rw [hx.1]; rfl) | (rw [hx.2])))
        · have h67 : 1 ≤ a := by have := mt na1.mpr h67; omega
          have h72 : a ≤ 5 := by have := mt na5.mpr h72; omega
          refine WP.aln (pc := 75) hC dX5_standsOnTrial_75 rfl ?_
          refine WP.gf (pc := 76) hC dX5_standsOnTrial_76 fl_X5_19 (by decide) rfl rfl ?_
          refine WP.iln (pc := 79) hC dX5_standsOnTrial_79 rfl ?_
          refine WP.iconst (pc := 80) hC dX5_standsOnTrial_80 1 (by decide) ?_
          refine WP.isub (pc := 81) hC dX5_standsOnTrial_81 ?_
          rw [show nI a - 1 = nI (a - 1) from pk_sub (b := 1) h67]
          refine WP.iln (pc := 82) hC dX5_standsOnTrial_82 rfl ?_
          refine WP.callVI (pc := 83) hC dX5_standsOnTrial_83 (k_X3_hasBoth _ F L nr ns (nI (a - 1)) (nI c) hN) ml_X5_123 rfl rfl (by decide) rfl (Nat.le_of_ble_eq_true rfl) ⟨by decide, by decide⟩ ?_
          rw [hbs (a - 1) (by omega), hbt c hc]
          refine WP.ifeq (pc := 86) hC dX5_standsOnTrial_86 122 (by decide) (fun h86 => ?_) (fun h86 => ?_)
          · refine WP.iconst (pc := 122) hC dX5_standsOnTrial_122 0 (by decide) ?_
            refine WP.zret (pc := 123) hC rfl (by first | exact Or.inl rfl | exact Or.inr rfl | exact b2_01 _) dX5_standsOnTrial_123 ?_ ?_ ?_
            all_goals (first | rfl | (have hne : ¬ a = 0 := (by omega); first | (rw [b2_0, Bool.and_eq_false_iff, decide_eq_false_iff_not, decide_eq_false_iff_not] at h86; first | (simp [stB, hne, h72, b2]; intro q1 q2; omega) | (unfold stF; rw [if_neg hne, if_pos h72, if_neg (by omega)])) | (simp [stB, hne, h72, h86, hy, b2]; done) | (simp [stF, hne, h72, h86, hy]; done) | (rw [b2_0, decide_eq_false_iff_not] at h115; simp [stB, hne, h72, h86, hy, h115, b2]; done) | (rw [b2_n0, decide_eq_true_eq] at h115; simp [stB, hne, h72, h86, hy, h115, b2]; done)))
          · rw [b2_n0, Bool.and_eq_true, decide_eq_true_eq, decide_eq_true_eq] at h86
            refine WP.aln (pc := 89) hC dX5_standsOnTrial_89 rfl ?_
            refine WP.gf (pc := 90) hC dX5_standsOnTrial_90 fl_X5_52 (by decide) rfl rfl ?_
            refine WP.aln (pc := 93) hC dX5_standsOnTrial_93 rfl ?_
            refine WP.gf (pc := 94) hC dX5_standsOnTrial_94 fl_X5_19 (by decide) rfl rfl ?_
            refine WP.iln (pc := 97) hC dX5_standsOnTrial_97 rfl ?_
            refine WP.iconst (pc := 98) hC dX5_standsOnTrial_98 1 (by decide) ?_
            refine WP.isub (pc := 99) hC dX5_standsOnTrial_99 ?_
            rw [show nI a - 1 = nI (a - 1) from pk_sub (b := 1) h67]
            refine WP.iln (pc := 100) hC dX5_standsOnTrial_100 rfl ?_
            refine WP.callVI (pc := 101) hC dX5_standsOnTrial_101 (k_X1_takeReading _ F L 36 nr ns (a - 1) c _ _ (hZ.bb (b := 36) (by decide) (by decide)) hN h86.1 h86.2) ml_X5_135 rfl rfl (by decide) rfl (Nat.le_of_ble_eq_true rfl) ⟨by decide, by decide⟩ ?_
            rw [show yesAt F 36 (a - 1) c (tru (F 36 3)) (tru (F 36 4)) = yesT F (a - 1) c from rfl]
            generalize hy : yesT F (a - 1) c = y
            refine WP.ifeq (pc := 104) hC dX5_standsOnTrial_104 118 (by decide) (fun h104 => ?_) (fun h104 => ?_)
            · first | (rw [b2_0] at h104; subst h104) | skip
              refine WP.iconst (pc := 118) hC dX5_standsOnTrial_118 1 (by decide) ?_
              refine WP.goto (pc := 119) hC dX5_standsOnTrial_119 123 (by decide) ?_
              refine WP.zret (pc := 123) hC rfl (by first | exact Or.inl rfl | exact Or.inr rfl | exact b2_01 _) dX5_standsOnTrial_123 ?_ ?_ ?_
              all_goals (first | rfl | (have hne : ¬ a = 0 := (by omega); first | (rw [b2_0, Bool.and_eq_false_iff, decide_eq_false_iff_not, decide_eq_false_iff_not] at h86; first | (simp [stB, hne, h72, b2]; intro q1 q2; omega) | (unfold stF; rw [if_neg hne, if_pos h72, if_neg (by omega)])) | (simp [stB, hne, h72, h86, hy, b2]; done) | (simp [stF, hne, h72, h86, hy]; done) | (rw [b2_0, decide_eq_false_iff_not] at h115; simp [stB, hne, h72, h86, hy, h115, b2]; done) | (rw [b2_n0, decide_eq_true_eq] at h115; simp [stB, hne, h72, h86, hy, h115, b2]; done)))
            · rw [b2_n0] at h104
              subst h104
              refine WP.aln (pc := 107) hC dX5_standsOnTrial_107 rfl ?_
              refine WP.gf (pc := 108) hC dX5_standsOnTrial_108 fl_X5_19 (by decide) rfl rfl ?_
              refine WP.iln (pc := 111) hC dX5_standsOnTrial_111 rfl ?_
              refine WP.callVI (pc := 112) hC dX5_standsOnTrial_112 (k_X3_isBright _ _ L nr ns c (show NR (tkR F 36 _ _ _) nr ns from hN) h86.2) ml_X5_173 rfl rfl (by decide) rfl (Nat.le_of_ble_eq_true rfl) ⟨by decide, by decide⟩ ?_
              rw [show tkR F 36 (a - 1) c true 7 c = F 7 c from by rw [tkR_row (by decide)]]
              refine WP.ifeq (pc := 115) hC dX5_standsOnTrial_115 122 (by decide) (fun h115 => ?_) (fun h115 => ?_)
              · refine WP.iconst (pc := 122) hC dX5_standsOnTrial_122 0 (by decide) ?_
                refine WP.zret (pc := 123) hC rfl (by first | exact Or.inl rfl | exact Or.inr rfl | exact b2_01 _) dX5_standsOnTrial_123 ?_ ?_ ?_
                all_goals (first | rfl | (have hne : ¬ a = 0 := (by omega); first | (rw [b2_0, Bool.and_eq_false_iff, decide_eq_false_iff_not, decide_eq_false_iff_not] at h86; first | (simp [stB, hne, h72, b2]; intro q1 q2; omega) | (unfold stF; rw [if_neg hne, if_pos h72, if_neg (by omega)])) | (simp [stB, hne, h72, h86, hy, b2]; done) | (simp [stF, hne, h72, h86, hy]; done) | (rw [b2_0, decide_eq_false_iff_not] at h115; simp [stB, hne, h72, h86, hy, h115, b2]; done) | (rw [b2_n0, decide_eq_true_eq] at h115; simp [stB, hne, h72, h86, hy, h115, b2]; done)))
              · first | (rw [b2_0] at h104; subst h104) | skip
                refine WP.iconst (pc := 118) hC dX5_standsOnTrial_118 1 (by decide) ?_
                refine WP.goto (pc := 119) hC dX5_standsOnTrial_119 123 (by decide) ?_
                refine WP.zret (pc := 123) hC rfl (by first | exact Or.inl rfl | exact Or.inr rfl | exact b2_01 _) dX5_standsOnTrial_123 ?_ ?_ ?_
                all_goals (first | rfl | (have hne : ¬ a = 0 := (by omega); first | (rw [b2_0, Bool.and_eq_false_iff, decide_eq_false_iff_not, decide_eq_false_iff_not] at h86; first | (simp [stB, hne, h72, b2]; intro q1 q2; omega) | (unfold stF; rw [if_neg hne, if_pos h72, if_neg (by omega)])) | (simp [stB, hne, h72, h86, hy, b2]; done) | (simp [stF, hne, h72, h86, hy]; done) | (rw [b2_0, decide_eq_false_iff_not] at h115; simp [stB, hne, h72, h86, hy, h115, b2]; done) | (rw [b2_n0, decide_eq_true_eq] at h115; simp [stB, hne, h72, h86, hy, h115, b2]; done)))
    · rw [na0] at h33
      refine WP.iln (pc := 36) hC dX5_standsOnTrial_36 rfl ?_
      refine WP.iconst (pc := 37) hC dX5_standsOnTrial_37 1 (by decide) ?_
      refine WP.icne (pc := 38) hC dX5_standsOnTrial_38 65 (by decide) (fun h38 => ?_) (fun h38 => ?_)
      · try rw [na0] at h33
        try rw [nc1] at h38
        refine WP.iln (pc := 65) hC dX5_standsOnTrial_65 rfl ?_
        refine WP.iconst (pc := 66) hC dX5_standsOnTrial_66 1 (by decide) ?_
        refine WP.iclt (pc := 67) hC dX5_standsOnTrial_67 124 (by decide) (fun h67 => ?_) (fun h67 => ?_)
        · try rw [na1] at h67
          try rw [na5] at h72
          refine WP.iln (pc := 124) hC dX5_standsOnTrial_124 rfl ?_
          refine WP.bipush (pc := 125) hC dX5_standsOnTrial_125 6 (by decide) ?_
          refine WP.icne (pc := 127) hC dX5_standsOnTrial_127 152 (by decide) (fun h127 => ?_) (fun h127 => ?_)
          · try rw [na6] at h127
            try rw [b2_0, decide_eq_false_iff_not] at h138
            refine WP.iconst (pc := 152) hC dX5_standsOnTrial_152 0 (by decide) ?_
            refine WP.zret (pc := 153) hC rfl (by first | exact Or.inl rfl | exact Or.inr rfl | exact b2_01 _) dX5_standsOnTrial_153 ?_ ?_ ?_
            all_goals (first | rfl | (have hx := stB_x (G := F) (nr := nr) (ns := ns) (a := a) (c := c) (by omega) (by omega) (by first | exact fun _ _ => h149 | (intro q1 q2; omega)); first | (rw [hx.1]; rfl) | (rw [hx.2])))
          · refine WP.aln (pc := 130) hC dX5_standsOnTrial_130 rfl ?_
            refine WP.gf (pc := 131) hC dX5_standsOnTrial_131 fl_X5_19 (by decide) rfl rfl ?_
            refine WP.iln (pc := 134) hC dX5_standsOnTrial_134 rfl ?_
            refine WP.callVI (pc := 135) hC dX5_standsOnTrial_135 (k_X3_hasReader _ F L nr ns (nI c) hN) ml_X5_88 rfl rfl (by decide) rfl (Nat.le_of_ble_eq_true rfl) ⟨by decide, by decide⟩ ?_
            rw [hbs c hc]
            refine WP.ifeq (pc := 138) hC dX5_standsOnTrial_138 152 (by decide) (fun h138 => ?_) (fun h138 => ?_)
            · try rw [na6] at h127
              try rw [b2_0, decide_eq_false_iff_not] at h138
              refine WP.iconst (pc := 152) hC dX5_standsOnTrial_152 0 (by decide) ?_
              refine WP.zret (pc := 153) hC rfl (by first | exact Or.inl rfl | exact Or.inr rfl | exact b2_01 _) dX5_standsOnTrial_153 ?_ ?_ ?_
              all_goals (first | rfl | (have hx := stB_x (G := F) (nr := nr) (ns := ns) (a := a) (c := c) (by omega) (by omega) (by first | exact fun _ _ => h149 | (intro q1 q2; omega)); first | (rw [hx.1]; rfl) | (rw [hx.2])))
            · rw [b2_n0, decide_eq_true_eq] at h138
              refine WP.aln (pc := 141) hC dX5_standsOnTrial_141 rfl ?_
              refine WP.gf (pc := 142) hC dX5_standsOnTrial_142 fl_X5_52 (by decide) rfl rfl ?_
              refine WP.iln (pc := 145) hC dX5_standsOnTrial_145 rfl ?_
              refine WP.callVI (pc := 146) hC dX5_standsOnTrial_146 (k_X1_readingsOf _ F L 36 c (by decide)) ml_X5_100 rfl rfl (by decide) rfl (Nat.le_of_ble_eq_true rfl) ⟨by decide, by decide⟩ ?_
              refine WP.ifne (pc := 149) hC dX5_standsOnTrial_149 154 (by decide) (fun h149 => ?_) (fun h149 => ?_)
              · refine WP.aln (pc := 154) hC dX5_standsOnTrial_154 rfl ?_
                refine WP.gf (pc := 155) hC dX5_standsOnTrial_155 fl_X5_52 (by decide) rfl rfl ?_
                refine WP.iln (pc := 158) hC dX5_standsOnTrial_158 rfl ?_
                refine WP.iconst (pc := 159) hC dX5_standsOnTrial_159 0 (by decide) ?_
                refine WP.callVV (pc := 160) hC dX5_standsOnTrial_160 (k_X1_setReadings _ F L 36 c 0 (by decide)) ml_X5_139 rfl rfl (by decide) rfl (Nat.le_of_ble_eq_true rfl) ⟨by decide, by decide⟩ ?_
                refine WP.iconst (pc := 163) hC dX5_standsOnTrial_163 1 (by decide) ?_
                refine WP.zret (pc := 164) hC rfl (by first | exact Or.inl rfl | exact Or.inr rfl | exact b2_01 _) dX5_standsOnTrial_164 ?_ ?_ ?_
                all_goals (first | rfl | (rw [na6] at h127; subst h127; simp [stB, h138, h149, b2]; done) | (rw [na6] at h127; subst h127; simp [stF, h138, h149]; done))
              · try rw [na6] at h127
                try rw [b2_0, decide_eq_false_iff_not] at h138
                refine WP.iconst (pc := 152) hC dX5_standsOnTrial_152 0 (by decide) ?_
                refine WP.zret (pc := 153) hC rfl (by first | exact Or.inl rfl | exact Or.inr rfl | exact b2_01 _) dX5_standsOnTrial_153 ?_ ?_ ?_
                all_goals (first | rfl | (have hx := stB_x (G := F) (nr := nr) (ns := ns) (a := a) (c := c) (by omega) (by omega) (by first | exact fun _ _ => h149 | (intro q1 q2; omega)); first | (rw [hx.1]; rfl) | (rw [hx.2])))
        · refine WP.iln (pc := 70) hC dX5_standsOnTrial_70 rfl ?_
          refine WP.iconst (pc := 71) hC dX5_standsOnTrial_71 5 (by decide) ?_
          refine WP.icgt (pc := 72) hC dX5_standsOnTrial_72 124 (by decide) (fun h72 => ?_) (fun h72 => ?_)
          · try rw [na1] at h67
            try rw [na5] at h72
            refine WP.iln (pc := 124) hC dX5_standsOnTrial_124 rfl ?_
            refine WP.bipush (pc := 125) hC dX5_standsOnTrial_125 6 (by decide) ?_
            refine WP.icne (pc := 127) hC dX5_standsOnTrial_127 152 (by decide) (fun h127 => ?_) (fun h127 => ?_)
            · try rw [na6] at h127
              try rw [b2_0, decide_eq_false_iff_not] at h138
              refine WP.iconst (pc := 152) hC dX5_standsOnTrial_152 0 (by decide) ?_
              refine WP.zret (pc := 153) hC rfl (by first | exact Or.inl rfl | exact Or.inr rfl | exact b2_01 _) dX5_standsOnTrial_153 ?_ ?_ ?_
              all_goals (first | rfl | (have hx := stB_x (G := F) (nr := nr) (ns := ns) (a := a) (c := c) (by omega) (by omega) (by first | exact fun _ _ => h149 | (intro q1 q2; omega)); first | (rw [hx.1]; rfl) | (rw [hx.2])))
            · refine WP.aln (pc := 130) hC dX5_standsOnTrial_130 rfl ?_
              refine WP.gf (pc := 131) hC dX5_standsOnTrial_131 fl_X5_19 (by decide) rfl rfl ?_
              refine WP.iln (pc := 134) hC dX5_standsOnTrial_134 rfl ?_
              refine WP.callVI (pc := 135) hC dX5_standsOnTrial_135 (k_X3_hasReader _ F L nr ns (nI c) hN) ml_X5_88 rfl rfl (by decide) rfl (Nat.le_of_ble_eq_true rfl) ⟨by decide, by decide⟩ ?_
              rw [hbs c hc]
              refine WP.ifeq (pc := 138) hC dX5_standsOnTrial_138 152 (by decide) (fun h138 => ?_) (fun h138 => ?_)
              · try rw [na6] at h127
                try rw [b2_0, decide_eq_false_iff_not] at h138
                refine WP.iconst (pc := 152) hC dX5_standsOnTrial_152 0 (by decide) ?_
                refine WP.zret (pc := 153) hC rfl (by first | exact Or.inl rfl | exact Or.inr rfl | exact b2_01 _) dX5_standsOnTrial_153 ?_ ?_ ?_
                all_goals (first | rfl | (have hx := stB_x (G := F) (nr := nr) (ns := ns) (a := a) (c := c) (by omega) (by omega) (by first | exact fun _ _ => h149 | (intro q1 q2; omega)); first | (rw [hx.1]; rfl) | (rw [hx.2])))
              · rw [b2_n0, decide_eq_true_eq] at h138
                refine WP.aln (pc := 141) hC dX5_standsOnTrial_141 rfl ?_
                refine WP.gf (pc := 142) hC dX5_standsOnTrial_142 fl_X5_52 (by decide) rfl rfl ?_
                refine WP.iln (pc := 145) hC dX5_standsOnTrial_145 rfl ?_
                refine WP.callVI (pc := 146) hC dX5_standsOnTrial_146 (k_X1_readingsOf _ F L 36 c (by decide)) ml_X5_100 rfl rfl (by decide) rfl (Nat.le_of_ble_eq_true rfl) ⟨by decide, by decide⟩ ?_
                refine WP.ifne (pc := 149) hC dX5_standsOnTrial_149 154 (by decide) (fun h149 => ?_) (fun h149 => ?_)
                · refine WP.aln (pc := 154) hC dX5_standsOnTrial_154 rfl ?_
                  refine WP.gf (pc := 155) hC dX5_standsOnTrial_155 fl_X5_52 (by decide) rfl rfl ?_
                  refine WP.iln (pc := 158) hC dX5_standsOnTrial_158 rfl ?_
                  refine WP.iconst (pc := 159) hC dX5_standsOnTrial_159 0 (by decide) ?_
                  refine WP.callVV (pc := 160) hC dX5_standsOnTrial_160 (k_X1_setReadings _ F L 36 c 0 (by decide)) ml_X5_139 rfl rfl (by decide) rfl (Nat.le_of_ble_eq_true rfl) ⟨by decide, by decide⟩ ?_
                  refine WP.iconst (pc := 163) hC dX5_standsOnTrial_163 1 (by decide) ?_
                  refine WP.zret (pc := 164) hC rfl (by first | exact Or.inl rfl | exact Or.inr rfl | exact b2_01 _) dX5_standsOnTrial_164 ?_ ?_ ?_
                  all_goals (first | rfl | (rw [na6] at h127; subst h127; simp [stB, h138, h149, b2]; done) | (rw [na6] at h127; subst h127; simp [stF, h138, h149]; done))
                · try rw [na6] at h127
                  try rw [b2_0, decide_eq_false_iff_not] at h138
                  refine WP.iconst (pc := 152) hC dX5_standsOnTrial_152 0 (by decide) ?_
                  refine WP.zret (pc := 153) hC rfl (by first | exact Or.inl rfl | exact Or.inr rfl | exact b2_01 _) dX5_standsOnTrial_153 ?_ ?_ ?_
                  all_goals (first | rfl | (have hx := stB_x (G := F) (nr := nr) (ns := ns) (a := a) (c := c) (by omega) (by omega) (by first | exact fun _ _ => h149 | (intro q1 q2; omega)); first | (rw [hx.1]; rfl) | (rw [hx.2])))
          · have h67 : 1 ≤ a := by have := mt na1.mpr h67; omega
            have h72 : a ≤ 5 := by have := mt na5.mpr h72; omega
            refine WP.aln (pc := 75) hC dX5_standsOnTrial_75 rfl ?_
            refine WP.gf (pc := 76) hC dX5_standsOnTrial_76 fl_X5_19 (by decide) rfl rfl ?_
            refine WP.iln (pc := 79) hC dX5_standsOnTrial_79 rfl ?_
            refine WP.iconst (pc := 80) hC dX5_standsOnTrial_80 1 (by decide) ?_
            refine WP.isub (pc := 81) hC dX5_standsOnTrial_81 ?_
            rw [show nI a - 1 = nI (a - 1) from pk_sub (b := 1) h67]
            refine WP.iln (pc := 82) hC dX5_standsOnTrial_82 rfl ?_
            refine WP.callVI (pc := 83) hC dX5_standsOnTrial_83 (k_X3_hasBoth _ F L nr ns (nI (a - 1)) (nI c) hN) ml_X5_123 rfl rfl (by decide) rfl (Nat.le_of_ble_eq_true rfl) ⟨by decide, by decide⟩ ?_
            rw [hbs (a - 1) (by omega), hbt c hc]
            refine WP.ifeq (pc := 86) hC dX5_standsOnTrial_86 122 (by decide) (fun h86 => ?_) (fun h86 => ?_)
            · refine WP.iconst (pc := 122) hC dX5_standsOnTrial_122 0 (by decide) ?_
              refine WP.zret (pc := 123) hC rfl (by first | exact Or.inl rfl | exact Or.inr rfl | exact b2_01 _) dX5_standsOnTrial_123 ?_ ?_ ?_
              all_goals (first | rfl | (have hne : ¬ a = 0 := (by omega); first | (rw [b2_0, Bool.and_eq_false_iff, decide_eq_false_iff_not, decide_eq_false_iff_not] at h86; first | (simp [stB, hne, h72, b2]; intro q1 q2; omega) | (unfold stF; rw [if_neg hne, if_pos h72, if_neg (by omega)])) | (simp [stB, hne, h72, h86, hy, b2]; done) | (simp [stF, hne, h72, h86, hy]; done) | (rw [b2_0, decide_eq_false_iff_not] at h115; simp [stB, hne, h72, h86, hy, h115, b2]; done) | (rw [b2_n0, decide_eq_true_eq] at h115; simp [stB, hne, h72, h86, hy, h115, b2]; done)))
            · rw [b2_n0, Bool.and_eq_true, decide_eq_true_eq, decide_eq_true_eq] at h86
              refine WP.aln (pc := 89) hC dX5_standsOnTrial_89 rfl ?_
              refine WP.gf (pc := 90) hC dX5_standsOnTrial_90 fl_X5_52 (by decide) rfl rfl ?_
              refine WP.aln (pc := 93) hC dX5_standsOnTrial_93 rfl ?_
              refine WP.gf (pc := 94) hC dX5_standsOnTrial_94 fl_X5_19 (by decide) rfl rfl ?_
              refine WP.iln (pc := 97) hC dX5_standsOnTrial_97 rfl ?_
              refine WP.iconst (pc := 98) hC dX5_standsOnTrial_98 1 (by decide) ?_
              refine WP.isub (pc := 99) hC dX5_standsOnTrial_99 ?_
              rw [show nI a - 1 = nI (a - 1) from pk_sub (b := 1) h67]
              refine WP.iln (pc := 100) hC dX5_standsOnTrial_100 rfl ?_
              refine WP.callVI (pc := 101) hC dX5_standsOnTrial_101 (k_X1_takeReading _ F L 36 nr ns (a - 1) c _ _ (hZ.bb (b := 36) (by decide) (by decide)) hN h86.1 h86.2) ml_X5_135 rfl rfl (by decide) rfl (Nat.le_of_ble_eq_true rfl) ⟨by decide, by decide⟩ ?_
              rw [show yesAt F 36 (a - 1) c (tru (F 36 3)) (tru (F 36 4)) = yesT F (a - 1) c from rfl]
              generalize hy : yesT F (a - 1) c = y
              refine WP.ifeq (pc := 104) hC dX5_standsOnTrial_104 118 (by decide) (fun h104 => ?_) (fun h104 => ?_)
              · first | (rw [b2_0] at h104; subst h104) | skip
                refine WP.iconst (pc := 118) hC dX5_standsOnTrial_118 1 (by decide) ?_
                refine WP.goto (pc := 119) hC dX5_standsOnTrial_119 123 (by decide) ?_
                refine WP.zret (pc := 123) hC rfl (by first | exact Or.inl rfl | exact Or.inr rfl | exact b2_01 _) dX5_standsOnTrial_123 ?_ ?_ ?_
                all_goals (first | rfl | (have hne : ¬ a = 0 := (by omega); first | (rw [b2_0, Bool.and_eq_false_iff, decide_eq_false_iff_not, decide_eq_false_iff_not] at h86; first | (simp [stB, hne, h72, b2]; intro q1 q2; omega) | (unfold stF; rw [if_neg hne, if_pos h72, if_neg (by omega)])) | (simp [stB, hne, h72, h86, hy, b2]; done) | (simp [stF, hne, h72, h86, hy]; done) | (rw [b2_0, decide_eq_false_iff_not] at h115; simp [stB, hne, h72, h86, hy, h115, b2]; done) | (rw [b2_n0, decide_eq_true_eq] at h115; simp [stB, hne, h72, h86, hy, h115, b2]; done)))
              · rw [b2_n0] at h104
                subst h104
                refine WP.aln (pc := 107) hC dX5_standsOnTrial_107 rfl ?_
                refine WP.gf (pc := 108) hC dX5_standsOnTrial_108 fl_X5_19 (by decide) rfl rfl ?_
                refine WP.iln (pc := 111) hC dX5_standsOnTrial_111 rfl ?_
                refine WP.callVI (pc := 112) hC dX5_standsOnTrial_112 (k_X3_isBright _ _ L nr ns c (show NR (tkR F 36 _ _ _) nr ns from hN) h86.2) ml_X5_173 rfl rfl (by decide) rfl (Nat.le_of_ble_eq_true rfl) ⟨by decide, by decide⟩ ?_
                rw [show tkR F 36 (a - 1) c true 7 c = F 7 c from by rw [tkR_row (by decide)]]
                refine WP.ifeq (pc := 115) hC dX5_standsOnTrial_115 122 (by decide) (fun h115 => ?_) (fun h115 => ?_)
                · refine WP.iconst (pc := 122) hC dX5_standsOnTrial_122 0 (by decide) ?_
                  refine WP.zret (pc := 123) hC rfl (by first | exact Or.inl rfl | exact Or.inr rfl | exact b2_01 _) dX5_standsOnTrial_123 ?_ ?_ ?_
                  all_goals (first | rfl | (have hne : ¬ a = 0 := (by omega); first | (rw [b2_0, Bool.and_eq_false_iff, decide_eq_false_iff_not, decide_eq_false_iff_not] at h86; first | (simp [stB, hne, h72, b2]; intro q1 q2; omega) | (unfold stF; rw [if_neg hne, if_pos h72, if_neg (by omega)])) | (simp [stB, hne, h72, h86, hy, b2]; done) | (simp [stF, hne, h72, h86, hy]; done) | (rw [b2_0, decide_eq_false_iff_not] at h115; simp [stB, hne, h72, h86, hy, h115, b2]; done) | (rw [b2_n0, decide_eq_true_eq] at h115; simp [stB, hne, h72, h86, hy, h115, b2]; done)))
                · first | (rw [b2_0] at h104; subst h104) | skip
                  refine WP.iconst (pc := 118) hC dX5_standsOnTrial_118 1 (by decide) ?_
                  refine WP.goto (pc := 119) hC dX5_standsOnTrial_119 123 (by decide) ?_
                  refine WP.zret (pc := 123) hC rfl (by first | exact Or.inl rfl | exact Or.inr rfl | exact b2_01 _) dX5_standsOnTrial_123 ?_ ?_ ?_
                  all_goals (first | rfl | (have hne : ¬ a = 0 := (by omega); first | (rw [b2_0, Bool.and_eq_false_iff, decide_eq_false_iff_not, decide_eq_false_iff_not] at h86; first | (simp [stB, hne, h72, b2]; intro q1 q2; omega) | (unfold stF; rw [if_neg hne, if_pos h72, if_neg (by omega)])) | (simp [stB, hne, h72, h86, hy, b2]; done) | (simp [stF, hne, h72, h86, hy]; done) | (rw [b2_0, decide_eq_false_iff_not] at h115; simp [stB, hne, h72, h86, hy, h115, b2]; done) | (rw [b2_n0, decide_eq_true_eq] at h115; simp [stB, hne, h72, h86, hy, h115, b2]; done)))
      · rw [nc1] at h38
        refine WP.aln (pc := 41) hC dX5_standsOnTrial_41 rfl ?_
        refine WP.gf (pc := 42) hC dX5_standsOnTrial_42 fl_X5_52 (by decide) rfl rfl ?_
        refine WP.aln (pc := 45) hC dX5_standsOnTrial_45 rfl ?_
        refine WP.gf (pc := 46) hC dX5_standsOnTrial_46 fl_X5_52 (by decide) rfl rfl ?_
        refine WP.gf (pc := 49) hC dX5_standsOnTrial_49 fl_X5_157 (by decide) rfl rfl ?_
        refine WP.ifne (pc := 52) hC dX5_standsOnTrial_52 59 (by decide) (fun h52 => ?_) (fun h52 => ?_)
        · refine WP.iconst (pc := 59) hC dX5_standsOnTrial_59 0 (by decide) ?_
          refine WP.pf (pc := 60) hC dX5_standsOnTrial_60 fp_X5_157 (nar_z (by first | exact Or.inl rfl | exact Or.inr rfl | exact b2_01 _)).2.1 (nar_z (by first | exact Or.inl rfl | exact Or.inr rfl | exact b2_01 _)).2.2 (by decide) rfl rfl (Nat.le_of_ble_eq_true rfl) ?_
          refine WP.iconst (pc := 63) hC dX5_standsOnTrial_63 1 (by decide) ?_
          refine WP.zret (pc := 64) hC rfl (by first | exact Or.inl rfl | exact Or.inr rfl | exact b2_01 _) dX5_standsOnTrial_64 ?_ ?_ ?_
          all_goals (first | rfl | (simp [stB, h33, h38, b2]; done) | (simp [stF, h33, h38, nzI, h52]; done))
        · refine WP.iconst (pc := 55) hC dX5_standsOnTrial_55 1 (by decide) ?_
          refine WP.goto (pc := 56) hC dX5_standsOnTrial_56 60 (by decide) ?_
          refine WP.pf (pc := 60) hC dX5_standsOnTrial_60 fp_X5_157 (nar_z (by first | exact Or.inl rfl | exact Or.inr rfl | exact b2_01 _)).2.1 (nar_z (by first | exact Or.inl rfl | exact Or.inr rfl | exact b2_01 _)).2.2 (by decide) rfl rfl (Nat.le_of_ble_eq_true rfl) ?_
          refine WP.iconst (pc := 63) hC dX5_standsOnTrial_63 1 (by decide) ?_
          refine WP.zret (pc := 64) hC rfl (by first | exact Or.inl rfl | exact Or.inr rfl | exact b2_01 _) dX5_standsOnTrial_64 ?_ ?_ ?_
          all_goals (first | rfl | (simp [stB, h33, h38, b2]; done) | (simp [stF, h33, h38, nzI, h52]; done))
  · rw [na0] at h1
    refine WP.iln (pc := 4) hC dX5_standsOnTrial_4 rfl ?_
    refine WP.ifne (pc := 5) hC dX5_standsOnTrial_5 32 (by decide) (fun h5 => ?_) (fun h5 => ?_)
    · try rw [na0] at h1
      try rw [nc0] at h5
      refine WP.iln (pc := 32) hC dX5_standsOnTrial_32 rfl ?_
      refine WP.ifne (pc := 33) hC dX5_standsOnTrial_33 65 (by decide) (fun h33 => ?_) (fun h33 => ?_)
      · try rw [na0] at h33
        try rw [nc1] at h38
        refine WP.iln (pc := 65) hC dX5_standsOnTrial_65 rfl ?_
        refine WP.iconst (pc := 66) hC dX5_standsOnTrial_66 1 (by decide) ?_
        refine WP.iclt (pc := 67) hC dX5_standsOnTrial_67 124 (by decide) (fun h67 => ?_) (fun h67 => ?_)
        · try rw [na1] at h67
          try rw [na5] at h72
          refine WP.iln (pc := 124) hC dX5_standsOnTrial_124 rfl ?_
          refine WP.bipush (pc := 125) hC dX5_standsOnTrial_125 6 (by decide) ?_
          refine WP.icne (pc := 127) hC dX5_standsOnTrial_127 152 (by decide) (fun h127 => ?_) (fun h127 => ?_)
          · try rw [na6] at h127
            try rw [b2_0, decide_eq_false_iff_not] at h138
            refine WP.iconst (pc := 152) hC dX5_standsOnTrial_152 0 (by decide) ?_
            refine WP.zret (pc := 153) hC rfl (by first | exact Or.inl rfl | exact Or.inr rfl | exact b2_01 _) dX5_standsOnTrial_153 ?_ ?_ ?_
            all_goals (first | rfl | (have hx := stB_x (G := F) (nr := nr) (ns := ns) (a := a) (c := c) (by omega) (by omega) (by first | exact fun _ _ => h149 | (intro q1 q2; omega)); first | (rw [hx.1]; rfl) | (rw [hx.2])))
          · refine WP.aln (pc := 130) hC dX5_standsOnTrial_130 rfl ?_
            refine WP.gf (pc := 131) hC dX5_standsOnTrial_131 fl_X5_19 (by decide) rfl rfl ?_
            refine WP.iln (pc := 134) hC dX5_standsOnTrial_134 rfl ?_
            refine WP.callVI (pc := 135) hC dX5_standsOnTrial_135 (k_X3_hasReader _ F L nr ns (nI c) hN) ml_X5_88 rfl rfl (by decide) rfl (Nat.le_of_ble_eq_true rfl) ⟨by decide, by decide⟩ ?_
            rw [hbs c hc]
            refine WP.ifeq (pc := 138) hC dX5_standsOnTrial_138 152 (by decide) (fun h138 => ?_) (fun h138 => ?_)
            · try rw [na6] at h127
              try rw [b2_0, decide_eq_false_iff_not] at h138
              refine WP.iconst (pc := 152) hC dX5_standsOnTrial_152 0 (by decide) ?_
              refine WP.zret (pc := 153) hC rfl (by first | exact Or.inl rfl | exact Or.inr rfl | exact b2_01 _) dX5_standsOnTrial_153 ?_ ?_ ?_
              all_goals (first | rfl | (have hx := stB_x (G := F) (nr := nr) (ns := ns) (a := a) (c := c) (by omega) (by omega) (by first | exact fun _ _ => h149 | (intro q1 q2; omega)); first | (rw [hx.1]; rfl) | (rw [hx.2])))
            · rw [b2_n0, decide_eq_true_eq] at h138
              refine WP.aln (pc := 141) hC dX5_standsOnTrial_141 rfl ?_
              refine WP.gf (pc := 142) hC dX5_standsOnTrial_142 fl_X5_52 (by decide) rfl rfl ?_
              refine WP.iln (pc := 145) hC dX5_standsOnTrial_145 rfl ?_
              refine WP.callVI (pc := 146) hC dX5_standsOnTrial_146 (k_X1_readingsOf _ F L 36 c (by decide)) ml_X5_100 rfl rfl (by decide) rfl (Nat.le_of_ble_eq_true rfl) ⟨by decide, by decide⟩ ?_
              refine WP.ifne (pc := 149) hC dX5_standsOnTrial_149 154 (by decide) (fun h149 => ?_) (fun h149 => ?_)
              · refine WP.aln (pc := 154) hC dX5_standsOnTrial_154 rfl ?_
                refine WP.gf (pc := 155) hC dX5_standsOnTrial_155 fl_X5_52 (by decide) rfl rfl ?_
                refine WP.iln (pc := 158) hC dX5_standsOnTrial_158 rfl ?_
                refine WP.iconst (pc := 159) hC dX5_standsOnTrial_159 0 (by decide) ?_
                refine WP.callVV (pc := 160) hC dX5_standsOnTrial_160 (k_X1_setReadings _ F L 36 c 0 (by decide)) ml_X5_139 rfl rfl (by decide) rfl (Nat.le_of_ble_eq_true rfl) ⟨by decide, by decide⟩ ?_
                refine WP.iconst (pc := 163) hC dX5_standsOnTrial_163 1 (by decide) ?_
                refine WP.zret (pc := 164) hC rfl (by first | exact Or.inl rfl | exact Or.inr rfl | exact b2_01 _) dX5_standsOnTrial_164 ?_ ?_ ?_
                all_goals (first | rfl | (rw [na6] at h127; subst h127; simp [stB, h138, h149, b2]; done) | (rw [na6] at h127; subst h127; simp [stF, h138, h149]; done))
              · try rw [na6] at h127
                try rw [b2_0, decide_eq_false_iff_not] at h138
                refine WP.iconst (pc := 152) hC dX5_standsOnTrial_152 0 (by decide) ?_
                refine WP.zret (pc := 153) hC rfl (by first | exact Or.inl rfl | exact Or.inr rfl | exact b2_01 _) dX5_standsOnTrial_153 ?_ ?_ ?_
                all_goals (first | rfl | (have hx := stB_x (G := F) (nr := nr) (ns := ns) (a := a) (c := c) (by omega) (by omega) (by first | exact fun _ _ => h149 | (intro q1 q2; omega)); first | (rw [hx.1]; rfl) | (rw [hx.2])))
        · refine WP.iln (pc := 70) hC dX5_standsOnTrial_70 rfl ?_
          refine WP.iconst (pc := 71) hC dX5_standsOnTrial_71 5 (by decide) ?_
          refine WP.icgt (pc := 72) hC dX5_standsOnTrial_72 124 (by decide) (fun h72 => ?_) (fun h72 => ?_)
          · try rw [na1] at h67
            try rw [na5] at h72
            refine WP.iln (pc := 124) hC dX5_standsOnTrial_124 rfl ?_
            refine WP.bipush (pc := 125) hC dX5_standsOnTrial_125 6 (by decide) ?_
            refine WP.icne (pc := 127) hC dX5_standsOnTrial_127 152 (by decide) (fun h127 => ?_) (fun h127 => ?_)
            · try rw [na6] at h127
              try rw [b2_0, decide_eq_false_iff_not] at h138
              refine WP.iconst (pc := 152) hC dX5_standsOnTrial_152 0 (by decide) ?_
              refine WP.zret (pc := 153) hC rfl (by first | exact Or.inl rfl | exact Or.inr rfl | exact b2_01 _) dX5_standsOnTrial_153 ?_ ?_ ?_
              all_goals (first | rfl | (have hx := stB_x (G := F) (nr := nr) (ns := ns) (a := a) (c := c) (by omega) (by omega) (by first | exact fun _ _ => h149 | (intro q1 q2; omega)); first | (rw [hx.1]; rfl) | (rw [hx.2])))
            · refine WP.aln (pc := 130) hC dX5_standsOnTrial_130 rfl ?_
              refine WP.gf (pc := 131) hC dX5_standsOnTrial_131 fl_X5_19 (by decide) rfl rfl ?_
              refine WP.iln (pc := 134) hC dX5_standsOnTrial_134 rfl ?_
              refine WP.callVI (pc := 135) hC dX5_standsOnTrial_135 (k_X3_hasReader _ F L nr ns (nI c) hN) ml_X5_88 rfl rfl (by decide) rfl (Nat.le_of_ble_eq_true rfl) ⟨by decide, by decide⟩ ?_
              rw [hbs c hc]
              refine WP.ifeq (pc := 138) hC dX5_standsOnTrial_138 152 (by decide) (fun h138 => ?_) (fun h138 => ?_)
              · try rw [na6] at h127
                try rw [b2_0, decide_eq_false_iff_not] at h138
                refine WP.iconst (pc := 152) hC dX5_standsOnTrial_152 0 (by decide) ?_
                refine WP.zret (pc := 153) hC rfl (by first | exact Or.inl rfl | exact Or.inr rfl | exact b2_01 _) dX5_standsOnTrial_153 ?_ ?_ ?_
                all_goals (first | rfl | (have hx := stB_x (G := F) (nr := nr) (ns := ns) (a := a) (c := c) (by omega) (by omega) (by first | exact fun _ _ => h149 | (intro q1 q2; omega)); first | (rw [hx.1]; rfl) | (rw [hx.2])))
              · rw [b2_n0, decide_eq_true_eq] at h138
                refine WP.aln (pc := 141) hC dX5_standsOnTrial_141 rfl ?_
                refine WP.gf (pc := 142) hC dX5_standsOnTrial_142 fl_X5_52 (by decide) rfl rfl ?_
                refine WP.iln (pc := 145) hC dX5_standsOnTrial_145 rfl ?_
                refine WP.callVI (pc := 146) hC dX5_standsOnTrial_146 (k_X1_readingsOf _ F L 36 c (by decide)) ml_X5_100 rfl rfl (by decide) rfl (Nat.le_of_ble_eq_true rfl) ⟨by decide, by decide⟩ ?_
                refine WP.ifne (pc := 149) hC dX5_standsOnTrial_149 154 (by decide) (fun h149 => ?_) (fun h149 => ?_)
                · refine WP.aln (pc := 154) hC dX5_standsOnTrial_154 rfl ?_
                  refine WP.gf (pc := 155) hC dX5_standsOnTrial_155 fl_X5_52 (by decide) rfl rfl ?_
                  refine WP.iln (pc := 158) hC dX5_standsOnTrial_158 rfl ?_
                  refine WP.iconst (pc := 159) hC dX5_standsOnTrial_159 0 (by decide) ?_
                  refine WP.callVV (pc := 160) hC dX5_standsOnTrial_160 (k_X1_setReadings _ F L 36 c 0 (by decide)) ml_X5_139 rfl rfl (by decide) rfl (Nat.le_of_ble_eq_true rfl) ⟨by decide, by decide⟩ ?_
                  refine WP.iconst (pc := 163) hC dX5_standsOnTrial_163 1 (by decide) ?_
                  refine WP.zret (pc := 164) hC rfl (by first | exact Or.inl rfl | exact Or.inr rfl | exact b2_01 _) dX5_standsOnTrial_164 ?_ ?_ ?_
                  all_goals (first | rfl | (rw [na6] at h127; subst h127; simp [stB, h138, h149, b2]; done) | (rw [na6] at h127; subst h127; simp [stF, h138, h149]; done))
                · try rw [na6] at h127
                  try rw [b2_0, decide_eq_false_iff_not] at h138
                  refine WP.iconst (pc := 152) hC dX5_standsOnTrial_152 0 (by decide) ?_
                  refine WP.zret (pc := 153) hC rfl (by first | exact Or.inl rfl | exact Or.inr rfl | exact b2_01 _) dX5_standsOnTrial_153 ?_ ?_ ?_
                  all_goals (first | rfl | (have hx := stB_x (G := F) (nr := nr) (ns := ns) (a := a) (c := c) (by omega) (by omega) (by first | exact fun _ _ => h149 | (intro q1 q2; omega)); first | (rw [hx.1]; rfl) | (rw [hx.2])))
          · have h67 : 1 ≤ a := by have := mt na1.mpr h67; omega
            have h72 : a ≤ 5 := by have := mt na5.mpr h72; omega
            refine WP.aln (pc := 75) hC dX5_standsOnTrial_75 rfl ?_
            refine WP.gf (pc := 76) hC dX5_standsOnTrial_76 fl_X5_19 (by decide) rfl rfl ?_
            refine WP.iln (pc := 79) hC dX5_standsOnTrial_79 rfl ?_
            refine WP.iconst (pc := 80) hC dX5_standsOnTrial_80 1 (by decide) ?_
            refine WP.isub (pc := 81) hC dX5_standsOnTrial_81 ?_
            rw [show nI a - 1 = nI (a - 1) from pk_sub (b := 1) h67]
            refine WP.iln (pc := 82) hC dX5_standsOnTrial_82 rfl ?_
            refine WP.callVI (pc := 83) hC dX5_standsOnTrial_83 (k_X3_hasBoth _ F L nr ns (nI (a - 1)) (nI c) hN) ml_X5_123 rfl rfl (by decide) rfl (Nat.le_of_ble_eq_true rfl) ⟨by decide, by decide⟩ ?_
            rw [hbs (a - 1) (by omega), hbt c hc]
            refine WP.ifeq (pc := 86) hC dX5_standsOnTrial_86 122 (by decide) (fun h86 => ?_) (fun h86 => ?_)
            · refine WP.iconst (pc := 122) hC dX5_standsOnTrial_122 0 (by decide) ?_
              refine WP.zret (pc := 123) hC rfl (by first | exact Or.inl rfl | exact Or.inr rfl | exact b2_01 _) dX5_standsOnTrial_123 ?_ ?_ ?_
              all_goals (first | rfl | (have hne : ¬ a = 0 := (by omega); first | (rw [b2_0, Bool.and_eq_false_iff, decide_eq_false_iff_not, decide_eq_false_iff_not] at h86; first | (simp [stB, hne, h72, b2]; intro q1 q2; omega) | (unfold stF; rw [if_neg hne, if_pos h72, if_neg (by omega)])) | (simp [stB, hne, h72, h86, hy, b2]; done) | (simp [stF, hne, h72, h86, hy]; done) | (rw [b2_0, decide_eq_false_iff_not] at h115; simp [stB, hne, h72, h86, hy, h115, b2]; done) | (rw [b2_n0, decide_eq_true_eq] at h115; simp [stB, hne, h72, h86, hy, h115, b2]; done)))
            · rw [b2_n0, Bool.and_eq_true, decide_eq_true_eq, decide_eq_true_eq] at h86
              refine WP.aln (pc := 89) hC dX5_standsOnTrial_89 rfl ?_
              refine WP.gf (pc := 90) hC dX5_standsOnTrial_90 fl_X5_52 (by decide) rfl rfl ?_
              refine WP.aln (pc := 93) hC dX5_standsOnTrial_93 rfl ?_
              refine WP.gf (pc := 94) hC dX5_standsOnTrial_94 fl_X5_19 (by decide) rfl rfl ?_
              refine WP.iln (pc := 97) hC dX5_standsOnTrial_97 rfl ?_
              refine WP.iconst (pc := 98) hC dX5_standsOnTrial_98 1 (by decide) ?_
              refine WP.isub (pc := 99) hC dX5_standsOnTrial_99 ?_
              rw [show nI a - 1 = nI (a - 1) from pk_sub (b := 1) h67]
              refine WP.iln (pc := 100) hC dX5_standsOnTrial_100 rfl ?_
              refine WP.callVI (pc := 101) hC dX5_standsOnTrial_101 (k_X1_takeReading _ F L 36 nr ns (a - 1) c _ _ (hZ.bb (b := 36) (by decide) (by decide)) hN h86.1 h86.2) ml_X5_135 rfl rfl (by decide) rfl (Nat.le_of_ble_eq_true rfl) ⟨by decide, by decide⟩ ?_
              rw [show yesAt F 36 (a - 1) c (tru (F 36 3)) (tru (F 36 4)) = yesT F (a - 1) c from rfl]
              generalize hy : yesT F (a - 1) c = y
              refine WP.ifeq (pc := 104) hC dX5_standsOnTrial_104 118 (by decide) (fun h104 => ?_) (fun h104 => ?_)
              · first | (rw [b2_0] at h104; subst h104) | skip
                refine WP.iconst (pc := 118) hC dX5_standsOnTrial_118 1 (by decide) ?_
                refine WP.goto (pc := 119) hC dX5_standsOnTrial_119 123 (by decide) ?_
                refine WP.zret (pc := 123) hC rfl (by first | exact Or.inl rfl | exact Or.inr rfl | exact b2_01 _) dX5_standsOnTrial_123 ?_ ?_ ?_
                all_goals (first | rfl | (have hne : ¬ a = 0 := (by omega); first | (rw [b2_0, Bool.and_eq_false_iff, decide_eq_false_iff_not, decide_eq_false_iff_not] at h86; first | (simp [stB, hne, h72, b2]; intro q1 q2; omega) | (unfold stF; rw [if_neg hne, if_pos h72, if_neg (by omega)])) | (simp [stB, hne, h72, h86, hy, b2]; done) | (simp [stF, hne, h72, h86, hy]; done) | (rw [b2_0, decide_eq_false_iff_not] at h115; simp [stB, hne, h72, h86, hy, h115, b2]; done) | (rw [b2_n0, decide_eq_true_eq] at h115; simp [stB, hne, h72, h86, hy, h115, b2]; done)))
              · rw [b2_n0] at h104
                subst h104
                refine WP.aln (pc := 107) hC dX5_standsOnTrial_107 rfl ?_
                refine WP.gf (pc := 108) hC dX5_standsOnTrial_108 fl_X5_19 (by decide) rfl rfl ?_
                refine WP.iln (pc := 111) hC dX5_standsOnTrial_111 rfl ?_
                refine WP.callVI (pc := 112) hC dX5_standsOnTrial_112 (k_X3_isBright _ _ L nr ns c (show NR (tkR F 36 _ _ _) nr ns from hN) h86.2) ml_X5_173 rfl rfl (by decide) rfl (Nat.le_of_ble_eq_true rfl) ⟨by decide, by decide⟩ ?_
                rw [show tkR F 36 (a - 1) c true 7 c = F 7 c from by rw [tkR_row (by decide)]]
                refine WP.ifeq (pc := 115) hC dX5_standsOnTrial_115 122 (by decide) (fun h115 => ?_) (fun h115 => ?_)
                · refine WP.iconst (pc := 122) hC dX5_standsOnTrial_122 0 (by decide) ?_
                  refine WP.zret (pc := 123) hC rfl (by first | exact Or.inl rfl | exact Or.inr rfl | exact b2_01 _) dX5_standsOnTrial_123 ?_ ?_ ?_
                  all_goals (first | rfl | (have hne : ¬ a = 0 := (by omega); first | (rw [b2_0, Bool.and_eq_false_iff, decide_eq_false_iff_not, decide_eq_false_iff_not] at h86; first | (simp [stB, hne, h72, b2]; intro q1 q2; omega) | (unfold stF; rw [if_neg hne, if_pos h72, if_neg (by omega)])) | (simp [stB, hne, h72, h86, hy, b2]; done) | (simp [stF, hne, h72, h86, hy]; done) | (rw [b2_0, decide_eq_false_iff_not] at h115; simp [stB, hne, h72, h86, hy, h115, b2]; done) | (rw [b2_n0, decide_eq_true_eq] at h115; simp [stB, hne, h72, h86, hy, h115, b2]; done)))
                · first | (rw [b2_0] at h104; subst h104) | skip
                  refine WP.iconst (pc := 118) hC dX5_standsOnTrial_118 1 (by decide) ?_
                  refine WP.goto (pc := 119) hC dX5_standsOnTrial_119 123 (by decide) ?_
                  refine WP.zret (pc := 123) hC rfl (by first | exact Or.inl rfl | exact Or.inr rfl | exact b2_01 _) dX5_standsOnTrial_123 ?_ ?_ ?_
                  all_goals (first | rfl | (have hne : ¬ a = 0 := (by omega); first | (rw [b2_0, Bool.and_eq_false_iff, decide_eq_false_iff_not, decide_eq_false_iff_not] at h86; first | (simp [stB, hne, h72, b2]; intro q1 q2; omega) | (unfold stF; rw [if_neg hne, if_pos h72, if_neg (by omega)])) | (simp [stB, hne, h72, h86, hy, b2]; done) | (simp [stF, hne, h72, h86, hy]; done) | (rw [b2_0, decide_eq_false_iff_not] at h115; simp [stB, hne, h72, h86, hy, h115, b2]; done) | (rw [b2_n0, decide_eq_true_eq] at h115; simp [stB, hne, h72, h86, hy, h115, b2]; done)))
      · rw [na0] at h33
        refine WP.iln (pc := 36) hC dX5_standsOnTrial_36 rfl ?_
        refine WP.iconst (pc := 37) hC dX5_standsOnTrial_37 1 (by decide) ?_
        refine WP.icne (pc := 38) hC dX5_standsOnTrial_38 65 (by decide) (fun h38 => ?_) (fun h38 => ?_)
        · try rw [na0] at h33
          try rw [nc1] at h38
          refine WP.iln (pc := 65) hC dX5_standsOnTrial_65 rfl ?_
          refine WP.iconst (pc := 66) hC dX5_standsOnTrial_66 1 (by decide) ?_
          refine WP.iclt (pc := 67) hC dX5_standsOnTrial_67 124 (by decide) (fun h67 => ?_) (fun h67 => ?_)
          · try rw [na1] at h67
            try rw [na5] at h72
            refine WP.iln (pc := 124) hC dX5_standsOnTrial_124 rfl ?_
            refine WP.bipush (pc := 125) hC dX5_standsOnTrial_125 6 (by decide) ?_
            refine WP.icne (pc := 127) hC dX5_standsOnTrial_127 152 (by decide) (fun h127 => ?_) (fun h127 => ?_)
            · try rw [na6] at h127
              try rw [b2_0, decide_eq_false_iff_not] at h138
              refine WP.iconst (pc := 152) hC dX5_standsOnTrial_152 0 (by decide) ?_
              refine WP.zret (pc := 153) hC rfl (by first | exact Or.inl rfl | exact Or.inr rfl | exact b2_01 _) dX5_standsOnTrial_153 ?_ ?_ ?_
              all_goals (first | rfl | (have hx := stB_x (G := F) (nr := nr) (ns := ns) (a := a) (c := c) (by omega) (by omega) (by first | exact fun _ _ => h149 | (intro q1 q2; omega)); first | (rw [hx.1]; rfl) | (rw [hx.2])))
            · refine WP.aln (pc := 130) hC dX5_standsOnTrial_130 rfl ?_
              refine WP.gf (pc := 131) hC dX5_standsOnTrial_131 fl_X5_19 (by decide) rfl rfl ?_
              refine WP.iln (pc := 134) hC dX5_standsOnTrial_134 rfl ?_
              refine WP.callVI (pc := 135) hC dX5_standsOnTrial_135 (k_X3_hasReader _ F L nr ns (nI c) hN) ml_X5_88 rfl rfl (by decide) rfl (Nat.le_of_ble_eq_true rfl) ⟨by decide, by decide⟩ ?_
              rw [hbs c hc]
              refine WP.ifeq (pc := 138) hC dX5_standsOnTrial_138 152 (by decide) (fun h138 => ?_) (fun h138 => ?_)
              · try rw [na6] at h127
                try rw [b2_0, decide_eq_false_iff_not] at h138
                refine WP.iconst (pc := 152) hC dX5_standsOnTrial_152 0 (by decide) ?_
                refine WP.zret (pc := 153) hC rfl (by first | exact Or.inl rfl | exact Or.inr rfl | exact b2_01 _) dX5_standsOnTrial_153 ?_ ?_ ?_
                all_goals (first | rfl | (have hx := stB_x (G := F) (nr := nr) (ns := ns) (a := a) (c := c) (by omega) (by omega) (by first | exact fun _ _ => h149 | (intro q1 q2; omega)); first | (rw [hx.1]; rfl) | (rw [hx.2])))
              · rw [b2_n0, decide_eq_true_eq] at h138
                refine WP.aln (pc := 141) hC dX5_standsOnTrial_141 rfl ?_
                refine WP.gf (pc := 142) hC dX5_standsOnTrial_142 fl_X5_52 (by decide) rfl rfl ?_
                refine WP.iln (pc := 145) hC dX5_standsOnTrial_145 rfl ?_
                refine WP.callVI (pc := 146) hC dX5_standsOnTrial_146 (k_X1_readingsOf _ F L 36 c (by decide)) ml_X5_100 rfl rfl (by decide) rfl (Nat.le_of_ble_eq_true rfl) ⟨by decide, by decide⟩ ?_
                refine WP.ifne (pc := 149) hC dX5_standsOnTrial_149 154 (by decide) (fun h149 => ?_) (fun h149 => ?_)
                · refine WP.aln (pc := 154) hC dX5_standsOnTrial_154 rfl ?_
                  refine WP.gf (pc := 155) hC dX5_standsOnTrial_155 fl_X5_52 (by decide) rfl rfl ?_
                  refine WP.iln (pc := 158) hC dX5_standsOnTrial_158 rfl ?_
                  refine WP.iconst (pc := 159) hC dX5_standsOnTrial_159 0 (by decide) ?_
                  refine WP.callVV (pc := 160) hC dX5_standsOnTrial_160 (k_X1_setReadings _ F L 36 c 0 (by decide)) ml_X5_139 rfl rfl (by decide) rfl (Nat.le_of_ble_eq_true rfl) ⟨by decide, by decide⟩ ?_
                  refine WP.iconst (pc := 163) hC dX5_standsOnTrial_163 1 (by decide) ?_
                  refine WP.zret (pc := 164) hC rfl (by first | exact Or.inl rfl | exact Or.inr rfl | exact b2_01 _) dX5_standsOnTrial_164 ?_ ?_ ?_
                  all_goals (first | rfl | (rw [na6] at h127; subst h127; simp [stB, h138, h149, b2]; done) | (rw [na6] at h127; subst h127; simp [stF, h138, h149]; done))
                · try rw [na6] at h127
                  try rw [b2_0, decide_eq_false_iff_not] at h138
                  refine WP.iconst (pc := 152) hC dX5_standsOnTrial_152 0 (by decide) ?_
                  refine WP.zret (pc := 153) hC rfl (by first | exact Or.inl rfl | exact Or.inr rfl | exact b2_01 _) dX5_standsOnTrial_153 ?_ ?_ ?_
                  all_goals (first | rfl | (have hx := stB_x (G := F) (nr := nr) (ns := ns) (a := a) (c := c) (by omega) (by omega) (by first | exact fun _ _ => h149 | (intro q1 q2; omega)); first | (rw [hx.1]; rfl) | (rw [hx.2])))
          · refine WP.iln (pc := 70) hC dX5_standsOnTrial_70 rfl ?_
            refine WP.iconst (pc := 71) hC dX5_standsOnTrial_71 5 (by decide) ?_
            refine WP.icgt (pc := 72) hC dX5_standsOnTrial_72 124 (by decide) (fun h72 => ?_) (fun h72 => ?_)
            · try rw [na1] at h67
              try rw [na5] at h72
              refine WP.iln (pc := 124) hC dX5_standsOnTrial_124 rfl ?_
              refine WP.bipush (pc := 125) hC dX5_standsOnTrial_125 6 (by decide) ?_
              refine WP.icne (pc := 127) hC dX5_standsOnTrial_127 152 (by decide) (fun h127 => ?_) (fun h127 => ?_)
              · try rw [na6] at h127
                try rw [b2_0, decide_eq_false_iff_not] at h138
                refine WP.iconst (pc := 152) hC dX5_standsOnTrial_152 0 (by decide) ?_
                refine WP.zret (pc := 153) hC rfl (by first | exact Or.inl rfl | exact Or.inr rfl | exact b2_01 _) dX5_standsOnTrial_153 ?_ ?_ ?_
                all_goals (first | rfl | (have hx := stB_x (G := F) (nr := nr) (ns := ns) (a := a) (c := c) (by omega) (by omega) (by first | exact fun _ _ => h149 | (intro q1 q2; omega)); first | (rw [hx.1]; rfl) | (rw [hx.2])))
              · refine WP.aln (pc := 130) hC dX5_standsOnTrial_130 rfl ?_
                refine WP.gf (pc := 131) hC dX5_standsOnTrial_131 fl_X5_19 (by decide) rfl rfl ?_
                refine WP.iln (pc := 134) hC dX5_standsOnTrial_134 rfl ?_
                refine WP.callVI (pc := 135) hC dX5_standsOnTrial_135 (k_X3_hasReader _ F L nr ns (nI c) hN) ml_X5_88 rfl rfl (by decide) rfl (Nat.le_of_ble_eq_true rfl) ⟨by decide, by decide⟩ ?_
                rw [hbs c hc]
                refine WP.ifeq (pc := 138) hC dX5_standsOnTrial_138 152 (by decide) (fun h138 => ?_) (fun h138 => ?_)
                · try rw [na6] at h127
                  try rw [b2_0, decide_eq_false_iff_not] at h138
                  refine WP.iconst (pc := 152) hC dX5_standsOnTrial_152 0 (by decide) ?_
                  refine WP.zret (pc := 153) hC rfl (by first | exact Or.inl rfl | exact Or.inr rfl | exact b2_01 _) dX5_standsOnTrial_153 ?_ ?_ ?_
                  all_goals (first | rfl | (have hx := stB_x (G := F) (nr := nr) (ns := ns) (a := a) (c := c) (by omega) (by omega) (by first | exact fun _ _ => h149 | (intro q1 q2; omega)); first | (rw [hx.1]; rfl) | (rw [hx.2])))
                · rw [b2_n0, decide_eq_true_eq] at h138
                  refine WP.aln (pc := 141) hC dX5_standsOnTrial_141 rfl ?_
                  refine WP.gf (pc := 142) hC dX5_standsOnTrial_142 fl_X5_52 (by decide) rfl rfl ?_
                  refine WP.iln (pc := 145) hC dX5_standsOnTrial_145 rfl ?_
                  refine WP.callVI (pc := 146) hC dX5_standsOnTrial_146 (k_X1_readingsOf _ F L 36 c (by decide)) ml_X5_100 rfl rfl (by decide) rfl (Nat.le_of_ble_eq_true rfl) ⟨by decide, by decide⟩ ?_
                  refine WP.ifne (pc := 149) hC dX5_standsOnTrial_149 154 (by decide) (fun h149 => ?_) (fun h149 => ?_)
                  · refine WP.aln (pc := 154) hC dX5_standsOnTrial_154 rfl ?_
                    refine WP.gf (pc := 155) hC dX5_standsOnTrial_155 fl_X5_52 (by decide) rfl rfl ?_
                    refine WP.iln (pc := 158) hC dX5_standsOnTrial_158 rfl ?_
                    refine WP.iconst (pc := 159) hC dX5_standsOnTrial_159 0 (by decide) ?_
                    refine WP.callVV (pc := 160) hC dX5_standsOnTrial_160 (k_X1_setReadings _ F L 36 c 0 (by decide)) ml_X5_139 rfl rfl (by decide) rfl (Nat.le_of_ble_eq_true rfl) ⟨by decide, by decide⟩ ?_
                    refine WP.iconst (pc := 163) hC dX5_standsOnTrial_163 1 (by decide) ?_
                    refine WP.zret (pc := 164) hC rfl (by first | exact Or.inl rfl | exact Or.inr rfl | exact b2_01 _) dX5_standsOnTrial_164 ?_ ?_ ?_
                    all_goals (first | rfl | (rw [na6] at h127; subst h127; simp [stB, h138, h149, b2]; done) | (rw [na6] at h127; subst h127; simp [stF, h138, h149]; done))
                  · try rw [na6] at h127
                    try rw [b2_0, decide_eq_false_iff_not] at h138
                    refine WP.iconst (pc := 152) hC dX5_standsOnTrial_152 0 (by decide) ?_
                    refine WP.zret (pc := 153) hC rfl (by first | exact Or.inl rfl | exact Or.inr rfl | exact b2_01 _) dX5_standsOnTrial_153 ?_ ?_ ?_
                    all_goals (first | rfl | (have hx := stB_x (G := F) (nr := nr) (ns := ns) (a := a) (c := c) (by omega) (by omega) (by first | exact fun _ _ => h149 | (intro q1 q2; omega)); first | (rw [hx.1]; rfl) | (rw [hx.2])))
            · have h67 : 1 ≤ a := by have := mt na1.mpr h67; omega
              have h72 : a ≤ 5 := by have := mt na5.mpr h72; omega
              refine WP.aln (pc := 75) hC dX5_standsOnTrial_75 rfl ?_
              refine WP.gf (pc := 76) hC dX5_standsOnTrial_76 fl_X5_19 (by decide) rfl rfl ?_
              refine WP.iln (pc := 79) hC dX5_standsOnTrial_79 rfl ?_
              refine WP.iconst (pc := 80) hC dX5_standsOnTrial_80 1 (by decide) ?_
              refine WP.isub (pc := 81) hC dX5_standsOnTrial_81 ?_
              rw [show nI a - 1 = nI (a - 1) from pk_sub (b := 1) h67]
              refine WP.iln (pc := 82) hC dX5_standsOnTrial_82 rfl ?_
              refine WP.callVI (pc := 83) hC dX5_standsOnTrial_83 (k_X3_hasBoth _ F L nr ns (nI (a - 1)) (nI c) hN) ml_X5_123 rfl rfl (by decide) rfl (Nat.le_of_ble_eq_true rfl) ⟨by decide, by decide⟩ ?_
              rw [hbs (a - 1) (by omega), hbt c hc]
              refine WP.ifeq (pc := 86) hC dX5_standsOnTrial_86 122 (by decide) (fun h86 => ?_) (fun h86 => ?_)
              · refine WP.iconst (pc := 122) hC dX5_standsOnTrial_122 0 (by decide) ?_
                refine WP.zret (pc := 123) hC rfl (by first | exact Or.inl rfl | exact Or.inr rfl | exact b2_01 _) dX5_standsOnTrial_123 ?_ ?_ ?_
                all_goals (first | rfl | (have hne : ¬ a = 0 := (by omega); first | (rw [b2_0, Bool.and_eq_false_iff, decide_eq_false_iff_not, decide_eq_false_iff_not] at h86; first | (simp [stB, hne, h72, b2]; intro q1 q2; omega) | (unfold stF; rw [if_neg hne, if_pos h72, if_neg (by omega)])) | (simp [stB, hne, h72, h86, hy, b2]; done) | (simp [stF, hne, h72, h86, hy]; done) | (rw [b2_0, decide_eq_false_iff_not] at h115; simp [stB, hne, h72, h86, hy, h115, b2]; done) | (rw [b2_n0, decide_eq_true_eq] at h115; simp [stB, hne, h72, h86, hy, h115, b2]; done)))
              · rw [b2_n0, Bool.and_eq_true, decide_eq_true_eq, decide_eq_true_eq] at h86
                refine WP.aln (pc := 89) hC dX5_standsOnTrial_89 rfl ?_
                refine WP.gf (pc := 90) hC dX5_standsOnTrial_90 fl_X5_52 (by decide) rfl rfl ?_
                refine WP.aln (pc := 93) hC dX5_standsOnTrial_93 rfl ?_
                refine WP.gf (pc := 94) hC dX5_standsOnTrial_94 fl_X5_19 (by decide) rfl rfl ?_
                refine WP.iln (pc := 97) hC dX5_standsOnTrial_97 rfl ?_
                refine WP.iconst (pc := 98) hC dX5_standsOnTrial_98 1 (by decide) ?_
                refine WP.isub (pc := 99) hC dX5_standsOnTrial_99 ?_
                rw [show nI a - 1 = nI (a - 1) from pk_sub (b := 1) h67]
                refine WP.iln (pc := 100) hC dX5_standsOnTrial_100 rfl ?_
                refine WP.callVI (pc := 101) hC dX5_standsOnTrial_101 (k_X1_takeReading _ F L 36 nr ns (a - 1) c _ _ (hZ.bb (b := 36) (by decide) (by decide)) hN h86.1 h86.2) ml_X5_135 rfl rfl (by decide) rfl (Nat.le_of_ble_eq_true rfl) ⟨by decide, by decide⟩ ?_
                rw [show yesAt F 36 (a - 1) c (tru (F 36 3)) (tru (F 36 4)) = yesT F (a - 1) c from rfl]
                generalize hy : yesT F (a - 1) c = y
                refine WP.ifeq (pc := 104) hC dX5_standsOnTrial_104 118 (by decide) (fun h104 => ?_) (fun h104 => ?_)
                · first | (rw [b2_0] at h104; subst h104) | skip
                  refine WP.iconst (pc := 118) hC dX5_standsOnTrial_118 1 (by decide) ?_
                  refine WP.goto (pc := 119) hC dX5_standsOnTrial_119 123 (by decide) ?_
                  refine WP.zret (pc := 123) hC rfl (by first | exact Or.inl rfl | exact Or.inr rfl | exact b2_01 _) dX5_standsOnTrial_123 ?_ ?_ ?_
                  all_goals (first | rfl | (have hne : ¬ a = 0 := (by omega); first | (rw [b2_0, Bool.and_eq_false_iff, decide_eq_false_iff_not, decide_eq_false_iff_not] at h86; first | (simp [stB, hne, h72, b2]; intro q1 q2; omega) | (unfold stF; rw [if_neg hne, if_pos h72, if_neg (by omega)])) | (simp [stB, hne, h72, h86, hy, b2]; done) | (simp [stF, hne, h72, h86, hy]; done) | (rw [b2_0, decide_eq_false_iff_not] at h115; simp [stB, hne, h72, h86, hy, h115, b2]; done) | (rw [b2_n0, decide_eq_true_eq] at h115; simp [stB, hne, h72, h86, hy, h115, b2]; done)))
                · rw [b2_n0] at h104
                  subst h104
                  refine WP.aln (pc := 107) hC dX5_standsOnTrial_107 rfl ?_
                  refine WP.gf (pc := 108) hC dX5_standsOnTrial_108 fl_X5_19 (by decide) rfl rfl ?_
                  refine WP.iln (pc := 111) hC dX5_standsOnTrial_111 rfl ?_
                  refine WP.callVI (pc := 112) hC dX5_standsOnTrial_112 (k_X3_isBright _ _ L nr ns c (show NR (tkR F 36 _ _ _) nr ns from hN) h86.2) ml_X5_173 rfl rfl (by decide) rfl (Nat.le_of_ble_eq_true rfl) ⟨by decide, by decide⟩ ?_
                  rw [show tkR F 36 (a - 1) c true 7 c = F 7 c from by rw [tkR_row (by decide)]]
                  refine WP.ifeq (pc := 115) hC dX5_standsOnTrial_115 122 (by decide) (fun h115 => ?_) (fun h115 => ?_)
                  · refine WP.iconst (pc := 122) hC dX5_standsOnTrial_122 0 (by decide) ?_
                    refine WP.zret (pc := 123) hC rfl (by first | exact Or.inl rfl | exact Or.inr rfl | exact b2_01 _) dX5_standsOnTrial_123 ?_ ?_ ?_
                    all_goals (first | rfl | (have hne : ¬ a = 0 := (by omega); first | (rw [b2_0, Bool.and_eq_false_iff, decide_eq_false_iff_not, decide_eq_false_iff_not] at h86; first | (simp [stB, hne, h72, b2]; intro q1 q2; omega) | (unfold stF; rw [if_neg hne, if_pos h72, if_neg (by omega)])) | (simp [stB, hne, h72, h86, hy, b2]; done) | (simp [stF, hne, h72, h86, hy]; done) | (rw [b2_0, decide_eq_false_iff_not] at h115; simp [stB, hne, h72, h86, hy, h115, b2]; done) | (rw [b2_n0, decide_eq_true_eq] at h115; simp [stB, hne, h72, h86, hy, h115, b2]; done)))
                  · first | (rw [b2_0] at h104; subst h104) | skip
                    refine WP.iconst (pc := 118) hC dX5_standsOnTrial_118 1 (by decide) ?_
                    refine WP.goto (pc := 119) hC dX5_standsOnTrial_119 123 (by decide) ?_
                    refine WP.zret (pc := 123) hC rfl (by first | exact Or.inl rfl | exact Or.inr rfl | exact b2_01 _) dX5_standsOnTrial_123 ?_ ?_ ?_
                    all_goals (first | rfl | (have hne : ¬ a = 0 := (by omega); first | (rw [b2_0, Bool.and_eq_false_iff, decide_eq_false_iff_not, decide_eq_false_iff_not] at h86; first | (simp [stB, hne, h72, b2]; intro q1 q2; omega) | (unfold stF; rw [if_neg hne, if_pos h72, if_neg (by omega)])) | (simp [stB, hne, h72, h86, hy, b2]; done) | (simp [stF, hne, h72, h86, hy]; done) | (rw [b2_0, decide_eq_false_iff_not] at h115; simp [stB, hne, h72, h86, hy, h115, b2]; done) | (rw [b2_n0, decide_eq_true_eq] at h115; simp [stB, hne, h72, h86, hy, h115, b2]; done)))
        · rw [nc1] at h38
          refine WP.aln (pc := 41) hC dX5_standsOnTrial_41 rfl ?_
          refine WP.gf (pc := 42) hC dX5_standsOnTrial_42 fl_X5_52 (by decide) rfl rfl ?_
          refine WP.aln (pc := 45) hC dX5_standsOnTrial_45 rfl ?_
          refine WP.gf (pc := 46) hC dX5_standsOnTrial_46 fl_X5_52 (by decide) rfl rfl ?_
          refine WP.gf (pc := 49) hC dX5_standsOnTrial_49 fl_X5_157 (by decide) rfl rfl ?_
          refine WP.ifne (pc := 52) hC dX5_standsOnTrial_52 59 (by decide) (fun h52 => ?_) (fun h52 => ?_)
          · refine WP.iconst (pc := 59) hC dX5_standsOnTrial_59 0 (by decide) ?_
            refine WP.pf (pc := 60) hC dX5_standsOnTrial_60 fp_X5_157 (nar_z (by first | exact Or.inl rfl | exact Or.inr rfl | exact b2_01 _)).2.1 (nar_z (by first | exact Or.inl rfl | exact Or.inr rfl | exact b2_01 _)).2.2 (by decide) rfl rfl (Nat.le_of_ble_eq_true rfl) ?_
            refine WP.iconst (pc := 63) hC dX5_standsOnTrial_63 1 (by decide) ?_
            refine WP.zret (pc := 64) hC rfl (by first | exact Or.inl rfl | exact Or.inr rfl | exact b2_01 _) dX5_standsOnTrial_64 ?_ ?_ ?_
            all_goals (first | rfl | (simp [stB, h33, h38, b2]; done) | (simp [stF, h33, h38, nzI, h52]; done))
          · refine WP.iconst (pc := 55) hC dX5_standsOnTrial_55 1 (by decide) ?_
            refine WP.goto (pc := 56) hC dX5_standsOnTrial_56 60 (by decide) ?_
            refine WP.pf (pc := 60) hC dX5_standsOnTrial_60 fp_X5_157 (nar_z (by first | exact Or.inl rfl | exact Or.inr rfl | exact b2_01 _)).2.1 (nar_z (by first | exact Or.inl rfl | exact Or.inr rfl | exact b2_01 _)).2.2 (by decide) rfl rfl (Nat.le_of_ble_eq_true rfl) ?_
            refine WP.iconst (pc := 63) hC dX5_standsOnTrial_63 1 (by decide) ?_
            refine WP.zret (pc := 64) hC rfl (by first | exact Or.inl rfl | exact Or.inr rfl | exact b2_01 _) dX5_standsOnTrial_64 ?_ ?_ ?_
            all_goals (first | rfl | (simp [stB, h33, h38, b2]; done) | (simp [stF, h33, h38, nzI, h52]; done))
    · rw [nc0] at h5
      refine WP.aln (pc := 8) hC dX5_standsOnTrial_8 rfl ?_
      refine WP.gf (pc := 9) hC dX5_standsOnTrial_9 fl_X5_52 (by decide) rfl rfl ?_
      refine WP.aln (pc := 12) hC dX5_standsOnTrial_12 rfl ?_
      refine WP.gf (pc := 13) hC dX5_standsOnTrial_13 fl_X5_52 (by decide) rfl rfl ?_
      refine WP.gf (pc := 16) hC dX5_standsOnTrial_16 fl_X5_153 (by decide) rfl rfl ?_
      refine WP.ifne (pc := 19) hC dX5_standsOnTrial_19 26 (by decide) (fun h19 => ?_) (fun h19 => ?_)
      · refine WP.iconst (pc := 26) hC dX5_standsOnTrial_26 0 (by decide) ?_
        refine WP.pf (pc := 27) hC dX5_standsOnTrial_27 fp_X5_153 (nar_z (by first | exact Or.inl rfl | exact Or.inr rfl | exact b2_01 _)).2.1 (nar_z (by first | exact Or.inl rfl | exact Or.inr rfl | exact b2_01 _)).2.2 (by decide) rfl rfl (Nat.le_of_ble_eq_true rfl) ?_
        refine WP.iconst (pc := 30) hC dX5_standsOnTrial_30 1 (by decide) ?_
        refine WP.zret (pc := 31) hC rfl (by first | exact Or.inl rfl | exact Or.inr rfl | exact b2_01 _) dX5_standsOnTrial_31 ?_ ?_ ?_
        all_goals (first | rfl | (simp [stB, h1, h5, b2]; done) | (simp [stF, h1, h5, nzI, h19]; done))
      · refine WP.iconst (pc := 22) hC dX5_standsOnTrial_22 1 (by decide) ?_
        refine WP.goto (pc := 23) hC dX5_standsOnTrial_23 27 (by decide) ?_
        refine WP.pf (pc := 27) hC dX5_standsOnTrial_27 fp_X5_153 (nar_z (by first | exact Or.inl rfl | exact Or.inr rfl | exact b2_01 _)).2.1 (nar_z (by first | exact Or.inl rfl | exact Or.inr rfl | exact b2_01 _)).2.2 (by decide) rfl rfl (Nat.le_of_ble_eq_true rfl) ?_
        refine WP.iconst (pc := 30) hC dX5_standsOnTrial_30 1 (by decide) ?_
        refine WP.zret (pc := 31) hC rfl (by first | exact Or.inl rfl | exact Or.inr rfl | exact b2_01 _) dX5_standsOnTrial_31 ?_ ?_ ?_
        all_goals (first | rfl | (simp [stB, h1, h5, b2]; done) | (simp [stF, h1, h5, nzI, h19]; done))
set_option maxHeartbeats 4000000 in
theorem k_X5_judge (l : Launch) (F : FF) (L : Int64) (nr ns : Nat) (n row : Int32) (hN : NR F nr ns) (hZ : BZ F) : CI l yX5_judge cX5_judge 5 (some .int) (rmx 6 140) wN [.ref 0, .int n, .int row] F L (jdR F nr ns n row) (jdF F nr ns n row) L := by
  refine mkI [some (.ref 0), some (.int n), some (.int row), none, none] 2 (by decide) rfl (Nat.le_of_ble_eq_true rfl) ?_
  intro x d hx hC
  subst hx
  have hC : Cx x cX5_judge 5 RX5 (some .int) (rmx 6 140) wN d := hC
  have hz := hZ 19 (by decide) (by decide)
  refine WP.iln (pc := 0) hC dX5_judge_0 rfl ?_
  refine WP.iconst (pc := 1) hC dX5_judge_1 1 (by decide) ?_
  refine WP.iclt (pc := 2) hC dX5_judge_2 20 (by decide) (fun h2 => ?_) (fun h2 => ?_)
  · refine WP.bipush (pc := 20) hC dX5_judge_20 (-2) (by decide) ?_
    refine WP.iret (pc := 22) hC rfl dX5_judge_22 ?_ ?_ ?_
    all_goals (first | rfl | (unfold jdR; refine (if_neg ?_).symm; unfold jdOk; rw [Bool.and_eq_true, Bool.and_eq_true, decide_eq_true_eq, decide_eq_true_eq]; rintro ⟨⟨q1, q2⟩, q3⟩; first | exact i_nlt.mpr q1 h2 | exact i_nlt.mpr q2 h7 | (rw [b2_0] at h17; rw [ix_nI (by omega), h17] at q3; cases q3)) | (unfold jdF; refine (if_neg ?_).symm; unfold jdOk; rw [Bool.and_eq_true, Bool.and_eq_true, decide_eq_true_eq, decide_eq_true_eq]; rintro ⟨⟨q1, q2⟩, q3⟩; first | exact i_nlt.mpr q1 h2 | exact i_nlt.mpr q2 h7 | (rw [b2_0] at h17; rw [ix_nI (by omega), h17] at q3; cases q3)))
  · refine WP.iln (pc := 5) hC dX5_judge_5 rfl ?_
    refine WP.iconst (pc := 6) hC dX5_judge_6 4 (by decide) ?_
    refine WP.icgt (pc := 7) hC dX5_judge_7 20 (by decide) (fun h7 => ?_) (fun h7 => ?_)
    · refine WP.bipush (pc := 20) hC dX5_judge_20 (-2) (by decide) ?_
      refine WP.iret (pc := 22) hC rfl dX5_judge_22 ?_ ?_ ?_
      all_goals (first | rfl | (unfold jdR; refine (if_neg ?_).symm; unfold jdOk; rw [Bool.and_eq_true, Bool.and_eq_true, decide_eq_true_eq, decide_eq_true_eq]; rintro ⟨⟨q1, q2⟩, q3⟩; first | exact i_nlt.mpr q1 h2 | exact i_nlt.mpr q2 h7 | (rw [b2_0] at h17; rw [ix_nI (by omega), h17] at q3; cases q3)) | (unfold jdF; refine (if_neg ?_).symm; unfold jdOk; rw [Bool.and_eq_true, Bool.and_eq_true, decide_eq_true_eq, decide_eq_true_eq]; rintro ⟨⟨q1, q2⟩, q3⟩; first | exact i_nlt.mpr q1 h2 | exact i_nlt.mpr q2 h7 | (rw [b2_0] at h17; rw [ix_nI (by omega), h17] at q3; cases q3)))
    · obtain ⟨m, hm1, hm4, rfl⟩ := ixm (K := 4) (i_nlt.mp h2) (i_nlt.mp h7) (by decide)
      refine WP.iln (pc := 10) hC dX5_judge_10 rfl ?_
      refine WP.iconst (pc := 11) hC dX5_judge_11 2 (by decide) ?_
      refine WP.iln (pc := 12) hC dX5_judge_12 rfl ?_
      refine WP.imul (pc := 13) hC dX5_judge_13 ?_
      rw [show (2 : Int32) * nI m = nI (2 * m) from pk_mul 2 m]
      refine WP.callSI (pc := 14) hC dX5_judge_14 (k_X5_hasFigures _ F L wN row (2 * m) (by omega)) ml_X5_187 rfl rfl (Nat.le_of_ble_eq_true rfl) ⟨by decide, by decide⟩ ?_
      refine WP.ifne (pc := 17) hC dX5_judge_17 23 (by decide) (fun h17 => ?_) (fun h17 => ?_)
      · rw [b2_n0] at h17
        have hok : jdOk (nI m) row = true := by
          unfold jdOk
          rw [ix_nI (by omega), h17]
          simp [i_nlt.mp h2, i_nlt.mp h7]
        obtain ⟨w, hw, rfl⟩ := nI_of (x := row) (by
          unfold rowOk at h17
          rw [Bool.and_eq_true, decide_eq_true_eq] at h17
          exact i_nlt.mpr h17.1)
        have ew : ix (nI w) = w := nI_clamp hw
        have em : ix (nI m) = m := ix_nI (by omega)
        rw [show jdR F nr ns (nI m) (nI w) = (jdN nr ns w m 0 (cpB F 36 19)).1 by unfold jdR; rw [if_pos hok, ew, em], show jdF F nr ns (nI m) (nI w) = (jdN nr ns w m 0 (cpB F 36 19)).2 by unfold jdF; rw [if_pos hok, ew, em]]
        generalize hV : jdN nr ns w m 0 (cpB F 36 19) = V
        have loop : ∀ (f k : Nat) (G : FF) (a4 : Option Value), TG F G → k + f = m → jdN nr ns w f k G = V → WP x 5 wN d (QI x wN d V.1 V.2 L) 36 [some (.ref 0), some (.int (nI m)), some (.int (nI w)), some (.int (nI k)), a4] [] G L := by
          intro f
          induction f with
          | zero =>
            intro k G a4 hG hk hv
            refine WP.iln (pc := 36) hC dX5_judge_36 rfl ?_
            refine WP.iln (pc := 37) hC dX5_judge_37 rfl ?_
            refine WP.icge (pc := 38) hC dX5_judge_38 79 (by decide) (fun h38 => ?_) (fun h38 => absurd h38 (fun q => q (nI_le (by omega) (by omega))))
            refine WP.bipush (pc := 79) hC dX5_judge_79 (-9) (by decide) ?_
            refine WP.iret (pc := 81) hC rfl dX5_judge_81 ?_ ?_ ?_
            all_goals (first | rfl | (rw [← hv]; rfl))
          | succ f ih =>
            intro k G a4 hG hk hv
            refine WP.iln (pc := 36) hC dX5_judge_36 rfl ?_
            refine WP.iln (pc := 37) hC dX5_judge_37 rfl ?_
            refine WP.icge (pc := 38) hC dX5_judge_38 79 (by decide) (fun h38 => absurd h38 (nI_ge (by omega) (by omega))) (fun h38 => ?_)
            refine WP.iconst (pc := 41) hC dX5_judge_41 2 (by decide) ?_
            refine WP.iln (pc := 42) hC dX5_judge_42 rfl ?_
            refine WP.iconst (pc := 43) hC dX5_judge_43 1 (by decide) ?_
            refine WP.isub (pc := 44) hC dX5_judge_44 ?_
            refine WP.iln (pc := 45) hC dX5_judge_45 rfl ?_
            refine WP.isub (pc := 46) hC dX5_judge_46 ?_
            refine WP.imul (pc := 47) hC dX5_judge_47 ?_
            rw [show (2 : Int32) * (nI m - 1 - nI k) = nI (2 * f) from by rw [show nI m - 1 = nI (m - 1) from pk_sub (b := 1) (by omega), pk_sub (by omega), show m - 1 - k = f by omega]; exact pk_mul 2 f]
            refine WP.is (lv' := [_, _, _, _, _]) (pc := 48) hC dX5_judge_48 rfl (by decide) rfl ?_
            refine WP.aln (pc := 50) hC dX5_judge_50 rfl ?_
            refine WP.iln (pc := 51) hC dX5_judge_51 rfl ?_
            refine WP.il (pc := 52) hC dX5_judge_52 rfl ?_
            refine WP.iconst (pc := 54) hC dX5_judge_54 1 (by decide) ?_
            refine WP.iadd (pc := 55) hC dX5_judge_55 ?_
            rw [nIp1]
            refine WP.callSI (pc := 56) hC dX5_judge_56 (k_X5_figure _ G L wN w (2 * f + 1) hw (by omega)) ml_X5_193 rfl rfl (Nat.le_of_ble_eq_true rfl) ⟨by decide, by decide⟩ ?_
            refine WP.iln (pc := 59) hC dX5_judge_59 rfl ?_
            refine WP.il (pc := 60) hC dX5_judge_60 rfl ?_
            refine WP.callSI (pc := 62) hC dX5_judge_62 (k_X5_figure _ G L wN w (2 * f) hw (by omega)) ml_X5_193 rfl rfl (Nat.le_of_ble_eq_true rfl) ⟨by decide, by decide⟩ ?_
            refine WP.callVI (pc := 65) hC dX5_judge_65 (k_X5_standsOnTrial _ G L nr ns _ _ (hG.nr hN) hG.2 (fig_lt _ _) (fig_lt _ _)) ml_X5_196 rfl rfl (by decide) rfl (Nat.le_of_ble_eq_true rfl) ⟨by decide, by decide⟩ ?_
            refine WP.ifne (pc := 68) hC dX5_judge_68 73 (by decide) (fun h68 => ?_) (fun h68 => ?_)
            · rw [b2_n0] at h68
              refine WP.iinc (lv' := [_, _, _, _, _]) (pc := 73) hC dX5_judge_73 rfl (_ + 1) rfl rfl (by decide) rfl ?_
              refine WP.goto (pc := 76) hC dX5_judge_76 36 (by decide) ?_
              rw [nIp1]
              rw [jdN, if_pos h68] at hv
              exact ih _ _ _ hG.st (by omega) hv
            · rw [b2_0] at h68
              refine WP.iln (pc := 71) hC dX5_judge_71 rfl ?_
              refine WP.iret (pc := 72) hC rfl dX5_judge_72 ?_ ?_ ?_
              all_goals (first | rfl | (rw [jdN, if_neg (by rw [h68]; decide)] at hv; rw [← hv]))
        refine WP.aln (pc := 23) hC dX5_judge_23 rfl ?_
        refine WP.gf (pc := 24) hC dX5_judge_24 fl_X5_52 (by decide) rfl rfl ?_
        refine WP.aln (pc := 27) hC dX5_judge_27 rfl ?_
        refine WP.gf (pc := 28) hC dX5_judge_28 fl_X5_26 (by decide) rfl rfl ?_
        refine WP.callVV (pc := 31) hC dX5_judge_31 (k_X1_copyFrom _ F L 36 19 (by decide) (by decide) (by decide) hz.1 hz.2) ml_X5_190 rfl rfl (by decide) rfl (Nat.le_of_ble_eq_true rfl) ⟨by decide, by decide⟩ ?_
        refine WP.iconst (pc := 34) hC dX5_judge_34 0 (by decide) ?_
        refine WP.isn (lv' := [_, _, _, _, _]) (pc := 35) hC dX5_judge_35 rfl (by decide) rfl ?_
        exact loop m 0 _ _ (TG.cp hZ) (by omega) hV
      · refine WP.bipush (pc := 20) hC dX5_judge_20 (-2) (by decide) ?_
        refine WP.iret (pc := 22) hC rfl dX5_judge_22 ?_ ?_ ?_
        all_goals (first | rfl | (unfold jdR; refine (if_neg ?_).symm; unfold jdOk; rw [Bool.and_eq_true, Bool.and_eq_true, decide_eq_true_eq, decide_eq_true_eq]; rintro ⟨⟨q1, q2⟩, q3⟩; first | exact i_nlt.mpr q1 h2 | exact i_nlt.mpr q2 h7 | (rw [b2_0] at h17; rw [ix_nI (by omega), h17] at q3; cases q3)) | (unfold jdF; refine (if_neg ?_).symm; unfold jdOk; rw [Bool.and_eq_true, Bool.and_eq_true, decide_eq_true_eq, decide_eq_true_eq]; rintro ⟨⟨q1, q2⟩, q3⟩; first | exact i_nlt.mpr q1 h2 | exact i_nlt.mpr q2 h7 | (rw [b2_0] at h17; rw [ix_nI (by omega), h17] at q3; cases q3)))
