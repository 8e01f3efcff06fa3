/-! ===== rows of BITS.to-paste (a starting text of the kit) ===== -/
theorem wb_tb (n : Nat) : (lN n).toBitVec = BitVec.ofNat 64 n := rfl
theorem wb_inj {a b : Int64} (h : a.toBitVec = b.toBitVec) : a = b := Int64.toBitVec_inj.mp h
theorem wb_tn {n : Nat} (h : n < 2 ^ 64) : (lN n).toBitVec.toNat = n := by rw [wb_tb, BitVec.toNat_ofNat, Nat.mod_eq_of_lt h]
theorem wb_of (x : Int64) : ∃ n, n < 2 ^ 64 ∧ x = lN n := ⟨x.toBitVec.toNat, x.toBitVec.isLt, wb_inj (by rw [wb_tb]; simp)⟩
theorem wb_of32 (x : Int32) : ∃ n, n < 2 ^ 32 ∧ x = nI n := ⟨x.toBitVec.toNat, x.toBitVec.isLt, Int32.toBitVec_inj.mp (by show _ = BitVec.ofNat 32 _; simp)⟩
theorem wb_c : ∀ k, k < 64 → ((nI k).toInt64 &&& 63) = lN k := by decide +kernel
theorem wb_cu : ∀ k, k < 64 → ((nI k).toInt64.toUInt64 &&& Int64.toUInt64 63) = UInt64.ofNat k := by decide +kernel
theorem wb_sm : ∀ k, k < 64 → (BitVec.ofNat 64 k).smod 64 = BitVec.ofNat 64 k := by decide +kernel
theorem wb_pw {a b : Nat} (h : a ≤ b) : 2 ^ b = 2 ^ a * 2 ^ (b - a) := by rw [← Nat.pow_add]; congr 1; omega
theorem wb_lt2 {a b : Nat} (h : a < b) : 2 ^ a < 2 ^ b := Nat.pow_lt_pow_right (by decide) h
theorem wb_mod (n : Nat) : lN n = lN (n % 2 ^ 64) := wb_inj (by rw [wb_tb, wb_tb]; apply BitVec.eq_of_toNat_eq; rw [BitVec.toNat_ofNat, BitVec.toNat_ofNat, Nat.mod_mod])
theorem wb_shr {n k : Nat} (hn : n < 2 ^ 64) (hk : k < 64) : ((lN n).toUInt64 >>> ((nI k).toInt64.toUInt64 &&& Int64.toUInt64 63)).toInt64 = lN (n / 2 ^ k) := by
  rw [wb_cu k hk]
  apply wb_inj
  apply BitVec.eq_of_toNat_eq
  show ((lN n).toUInt64 >>> UInt64.ofNat k).toNat = (BitVec.ofNat 64 _).toNat
  have h1 : (UInt64.ofNat k).toNat = k := by
    show (BitVec.ofNat 64 k).toNat = k
    rw [BitVec.toNat_ofNat, Nat.mod_eq_of_lt (by omega)]
  have h2 : (lN n).toUInt64.toNat = n := wb_tn hn
  rw [UInt64.toNat_shiftRight, h1, h2, Nat.mod_eq_of_lt hk, Nat.shiftRight_eq_div_pow, BitVec.toNat_ofNat, Nat.mod_eq_of_lt (Nat.lt_of_le_of_lt (Nat.div_le_self _ _) hn)]
/-! ===== NewRays: winters, gone ===== -/
def wvI (x : Int64) : Int32 := ((x.toUInt64 >>> ((33 : Int32).toInt64.toUInt64 &&& Int64.toUInt64 63)).toInt64 - (x.toUInt64 >>> ((33 : Int32).toInt64.toUInt64 &&& Int64.toUInt64 63)).toInt64 / 22 * 22).toInt32
def wv (x : Int64) : Nat := (wvI x).toNatClampNeg
theorem wv_ok (x : Int64) : wvI x = nI (wv x) ∧ wv x < 22 := by
  have key : ∃ k, k < 22 ∧ wvI x = nI k := by
    obtain ⟨n, hn, rfl⟩ := wb_of x
    have e := wb_shr (n := n) (k := 33) hn (by decide)
    have ha : n / 2 ^ 33 < 2 ^ 63 := Nat.lt_of_le_of_lt (Nat.le_of_lt_succ (Nat.lt_succ_of_lt (Nat.div_lt_of_lt_mul (show n < 2 ^ 33 * 2 ^ 31 by rw [← Nat.pow_add]; exact hn)))) (show 2 ^ 31 < 2 ^ 63 by decide)
    refine ⟨n / 2 ^ 33 % 22, Nat.mod_lt _ (by decide), ?_⟩
    unfold wvI
    rw [show (33 : Int32) = nI 33 from rfl, e, show (22 : Int64) = lN 22 from rfl, pk_lRem ha (by decide) (by decide), lN_i]
  obtain ⟨k, hk, e⟩ := key
  unfold wv
  rw [e, nI_clamp (by omega)]
  exact ⟨rfl, hk⟩
def sdN (x : Int64) : Int64 := x * 6364136223846793005 + 1442695040888963407
def wiF (G : FF) (nr ns k : Nat) : FF := if k = 20 then up2 G 36 3 (nzI (G 36 3)) else if k = 21 then up2 G 36 4 (nzI (G 36 4)) else if k / 4 < nr ∧ k % 4 < ns then tkR G 36 (k / 4) (k % 4) (yesT G (k / 4) (k % 4)) else G
theorem TG.wi {F G : FF} (h : TG F G) {nr ns k : Nat} : TG F (wiF G nr ns k) := by
  unfold wiF
  (repeat' split) <;> first | exact h | exact h.tk | exact h.up (fun _ => nzI_01 _)
def itN (g : FF × Int64 → FF × Int64) : Nat → FF × Int64 → FF × Int64
  | 0, p => p
  | n + 1, p => itN g n (g p)
theorem itN_s (g : FF × Int64 → FF × Int64) (n : Nat) (p : FF × Int64) : itN g (n + 1) p = itN g n (g p) := rfl
def wnS (nr ns : Nat) (p : FF × Int64) : FF × Int64 := (wiF p.1 nr ns (wv (sdN p.2)), sdN p.2)
def wnN (nr ns n : Nat) (G : FF) (x : Int64) : FF × Int64 := itN (wnS nr ns) n (G, x)
theorem wnN_0 (nr ns : Nat) (G : FF) (x : Int64) : wnN nr ns 0 G x = (G, x) := rfl
theorem wnN_s (nr ns n : Nat) (G : FF) (x : Int64) : wnN nr ns (n + 1) G x = wnN nr ns n (wiF G nr ns (wv (sdN x))) (sdN x) := itN_s _ _ _
def wnOk (m : Int32) : Bool := decide (1 ≤ m) && decide (m ≤ 30)
def wnV (F : FF) (L : Int64) (nr ns : Nat) (m : Int32) : FF × Int64 := if wnOk m = true then wnN nr ns (ix m) (cpB F 36 19) L else (F, L)
def wnR (F : FF) (L : Int64) (nr ns : Nat) (m : Int32) : Int32 := if wnOk m = true then rgN (wnV F L nr ns m).1 36 ns else -2
theorem rgN_row {F G : FF} (h7 : G 7 = F 7) : ∀ n, (∀ s, s < n → (if 0 < G 7 s then G 36 0 else G 36 1) = (if 0 < F 7 s then G 36 0 else G 36 1)) := fun n s _ => by rw [h7]
def allN (f : Nat → Bool) : Nat → Bool
  | 0 => true
  | n + 1 => allN f n && f n
theorem allN_f {f : Nat → Bool} {m : Nat} (h : f m = false) : ∀ k, m < k → allN f k = false
  | 0, q => by omega
  | k + 1, q => by
    rw [allN]
    by_cases e : m = k
    · rw [← e, h, Bool.and_false]
    · rw [allN_f h k (by omega), Bool.false_and]
theorem allN_t {f : Nat → Bool} : ∀ {n : Nat}, allN f n = true → ∀ k, k < n → f k = true
  | 0, _, k, q => by omega
  | n + 1, h, k, q => by
    rw [allN, Bool.and_eq_true] at h
    by_cases e : k = n
    · rw [e]; exact h.2
    · exact allN_t h.1 k (by omega)
def smOk (w ns k : Nat) : Bool := hasB (nI (fig w k) - 1) ns
def gnS (F : FF) (i m w fr k : Nat) : Bool := saysB (F 6 i) (F 5 i) (sees (F 6 i) (F 4 i) (lits (decide (k < fr)) (F 7 (fig w (m - 1 - k) - 1))) (nI k) true)
def gnOk (n row said : Int32) : Bool := (decide (1 ≤ n) && decide (n ≤ 6)) && (rowOk row (ix n) && (decide (0 ≤ said) && decide (said < nI (2 ^ ix n))))
def gnR (F : FF) (nr ns : Nat) (r n row said : Int32) : Int32 := if hasB r nr = true then (if gnOk n row said = true then (if allN (smOk (ix row) ns) (ix n) = true then nI (bits (fun fr => decide (nI (bits (gnS F (ix r) (ix n) (ix row) fr) (ix n)) = said)) (ix n + 1)) else -3) else -2) else -1
theorem smOk_of {w ns k : Nat} (hs : ns ≤ 4) (h : smOk w ns k = true) : 1 ≤ fig w k ∧ fig w k - 1 < ns ∧ nI (fig w k) - 1 = nI (fig w k - 1) := by
  have h9 := fig_lt w k
  have h1 : 1 ≤ fig w k := by
    rcases Nat.eq_zero_or_pos (fig w k) with e | e
    · unfold smOk at h
      rw [e] at h
      simp only [hasB, Bool.and_eq_true, decide_eq_true_eq] at h
      exact absurd h.1 (by decide)
    · exact e
  have e : nI (fig w k) - 1 = nI (fig w k - 1) := pk_sub (b := 1) h1
  unfold smOk at h
  rw [e] at h
  obtain ⟨j, hj, ej⟩ := hasB_of (by omega) h
  have := (nI_eq (by omega) (by omega)).mp ej
  exact ⟨h1, by omega, e⟩

set_option maxHeartbeats 4000000 in
theorem k_X5_winterOnTrial (l : Launch) (F : FF) (L : Int64) (nr ns k : Nat) (hN : NR F nr ns) (hZ : BZ F) (hk : k < 22) : CV l yX5_winterOnTrial cX5_winterOnTrial 2 none (rmx 5 118) wN [.ref 0, .int (nI k)] F L (wiF F nr ns k) L := by
  refine mkV [some (.ref 0), some (.int (nI k))] 0 (by decide) rfl (Nat.le_of_ble_eq_true rfl) ?_
  intro x d hx hC
  subst hx
  have hC : Cx x cX5_winterOnTrial 2 RX5 none (rmx 5 118) wN d := hC
  have hr5 := hN.2.2.1
  have hs4 := hN.2.2.2
  have n20 : nI k = 20 ↔ k = 20 := nI_eq (b := 20) (by omega) (by decide)
  have n21 : nI k = 21 ↔ k = 21 := nI_eq (b := 21) (by omega) (by decide)
  have ed : nI k / 4 = nI (k / 4) := pk_div (d := 4) (by omega) (by decide) (by decide)
  have er : nI k - nI k / 4 * 4 = nI (k % 4) := pk_rem (d := 4) (by omega) (by decide) (by decide)
  have hbs : ∀ q, q < 10 → ∀ n, n ≤ 5 → hasB (nI q) n = decide (q < n) := fun q hq n hn => by
    unfold hasB
    simp only [nI_ltI (show q < 2 ^ 31 by omega) (show n < 2 ^ 31 by omega), nI_pos' (show q < 2 ^ 31 by omega), decide_true, Bool.true_and]
  refine WP.iln (pc := 0) hC dX5_winterOnTrial_0 rfl ?_
  refine WP.bipush (pc := 1) hC dX5_winterOnTrial_1 20 (by decide) ?_
  refine WP.icne (pc := 3) hC dX5_winterOnTrial_3 31 (by decide) (fun h3 => ?_) (fun h3 => ?_)
  · rw [n20] at h3
    refine WP.iln (pc := 31) hC dX5_winterOnTrial_31 rfl ?_
    refine WP.bipush (pc := 32) hC dX5_winterOnTrial_32 21 (by decide) ?_
    refine WP.icne (pc := 34) hC dX5_winterOnTrial_34 62 (by decide) (fun h34 => ?_) (fun h34 => ?_)
    · rw [n21] at h34
      refine WP.aln (pc := 62) hC dX5_winterOnTrial_62 rfl ?_
      refine WP.gf (pc := 63) hC dX5_winterOnTrial_63 fl_X5_19 (by decide) rfl rfl ?_
      refine WP.iln (pc := 66) hC dX5_winterOnTrial_66 rfl ?_
      refine WP.iconst (pc := 67) hC dX5_winterOnTrial_67 4 (by decide) ?_
      refine WP.idiv (pc := 68) hC dX5_winterOnTrial_68 (by decide) ?_
      refine WP.iln (pc := 69) hC dX5_winterOnTrial_69 rfl ?_
      refine WP.iconst (pc := 70) hC dX5_winterOnTrial_70 4 (by decide) ?_
      refine WP.irem (pc := 71) hC dX5_winterOnTrial_71 (by decide) ?_
      rw [er, ed]
      refine WP.callVI (pc := 72) hC dX5_winterOnTrial_72 (k_X3_hasBoth _ F L nr ns (nI (k / 4)) (nI (k % 4)) hN) ml_X5_123 rfl rfl (by decide) rfl (Nat.le_of_ble_eq_true rfl) ⟨by decide, by decide⟩ ?_
      rw [hbs _ (by omega) nr hr5, hbs _ (by omega) ns (by omega)]
      refine WP.ifeq (pc := 75) hC dX5_winterOnTrial_75 96 (by decide) (fun h75 => ?_) (fun h75 => ?_)
      · refine WP.vret (pc := 96) hC rfl dX5_winterOnTrial_96 ?_ ?_
        all_goals (first | rfl | (simp [wiF, h3, nzI, h17]; done) | (simp [wiF, h3, h34, nzI, h48]; done) | (unfold wiF; rw [if_neg h3, if_neg h34, if_pos h75]; rfl) | (rw [b2_0, Bool.and_eq_false_iff, decide_eq_false_iff_not, decide_eq_false_iff_not] at h75; unfold wiF; rw [if_neg h3, if_neg h34, if_neg (by omega)]))
      · rw [b2_n0, Bool.and_eq_true, decide_eq_true_eq, decide_eq_true_eq] at h75
        refine WP.aln (pc := 78) hC dX5_winterOnTrial_78 rfl ?_
        refine WP.gf (pc := 79) hC dX5_winterOnTrial_79 fl_X5_52 (by decide) rfl rfl ?_
        refine WP.aln (pc := 82) hC dX5_winterOnTrial_82 rfl ?_
        refine WP.gf (pc := 83) hC dX5_winterOnTrial_83 fl_X5_19 (by decide) rfl rfl ?_
        refine WP.iln (pc := 86) hC dX5_winterOnTrial_86 rfl ?_
        refine WP.iconst (pc := 87) hC dX5_winterOnTrial_87 4 (by decide) ?_
        refine WP.idiv (pc := 88) hC dX5_winterOnTrial_88 (by decide) ?_
        refine WP.iln (pc := 89) hC dX5_winterOnTrial_89 rfl ?_
        refine WP.iconst (pc := 90) hC dX5_winterOnTrial_90 4 (by decide) ?_
        refine WP.irem (pc := 91) hC dX5_winterOnTrial_91 (by decide) ?_
        rw [er, ed]
        refine WP.callVI (pc := 92) hC dX5_winterOnTrial_92 (k_X1_takeReading _ F L 36 nr ns (k / 4) (k % 4) _ _ (hZ.bb (b := 36) (by decide) (by decide)) hN h75.1 h75.2) ml_X5_135 rfl rfl (by decide) rfl (Nat.le_of_ble_eq_true rfl) ⟨by decide, by decide⟩ ?_
        refine WP.pop (pc := 95) hC dX5_winterOnTrial_95 rfl ?_
        refine WP.vret (pc := 96) hC rfl dX5_winterOnTrial_96 ?_ ?_
        all_goals (first | rfl | (simp [wiF, h3, nzI, h17]; done) | (simp [wiF, h3, h34, nzI, h48]; done) | (unfold wiF; rw [if_neg h3, if_neg h34, if_pos h75]; rfl) | (rw [b2_0, Bool.and_eq_false_iff, decide_eq_false_iff_not, decide_eq_false_iff_not] at h75; unfold wiF; rw [if_neg h3, if_neg h34, if_neg (by omega)]))
    · rw [n21] at h34
      refine WP.aln (pc := 37) hC dX5_winterOnTrial_37 rfl ?_
      refine WP.gf (pc := 38) hC dX5_winterOnTrial_38 fl_X5_52 (by decide) rfl rfl ?_
      refine WP.aln (pc := 41) hC dX5_winterOnTrial_41 rfl ?_
      refine WP.gf (pc := 42) hC dX5_winterOnTrial_42 fl_X5_52 (by decide) rfl rfl ?_
      refine WP.gf (pc := 45) hC dX5_winterOnTrial_45 fl_X5_157 (by decide) rfl rfl ?_
      refine WP.ifne (pc := 48) hC dX5_winterOnTrial_48 55 (by decide) (fun h48 => ?_) (fun h48 => ?_)
      · refine WP.iconst (pc := 55) hC dX5_winterOnTrial_55 0 (by decide) ?_
        refine WP.pf (pc := 56) hC dX5_winterOnTrial_56 fp_X5_157 (nar_z (by first | exact Or.inl rfl | exact Or.inr rfl | exact b2_01 _)).2.1 (nar_z (by first | exact Or.inl rfl | exact Or.inr rfl | exact b2_01 _)).2.2 (by decide) rfl rfl (Nat.le_of_ble_eq_true rfl) ?_
        refine WP.goto (pc := 59) hC dX5_winterOnTrial_59 96 (by decide) ?_
        refine WP.vret (pc := 96) hC rfl dX5_winterOnTrial_96 ?_ ?_
        all_goals (first | rfl | (simp [wiF, h3, nzI, h17]; done) | (simp [wiF, h3, h34, nzI, h48]; done) | (unfold wiF; rw [if_neg h3, if_neg h34, if_pos h75]; rfl) | (rw [b2_0, Bool.and_eq_false_iff, decide_eq_false_iff_not, decide_eq_false_iff_not] at h75; unfold wiF; rw [if_neg h3, if_neg h34, if_neg (by omega)]))
      · refine WP.iconst (pc := 51) hC dX5_winterOnTrial_51 1 (by decide) ?_
        refine WP.goto (pc := 52) hC dX5_winterOnTrial_52 56 (by decide) ?_
        refine WP.pf (pc := 56) hC dX5_winterOnTrial_56 fp_X5_157 (nar_z (by first | exact Or.inl rfl | exact Or.inr rfl | exact b2_01 _)).2.1 (nar_z (by first | exact Or.inl rfl | exact Or.inr rfl | exact b2_01 _)).2.2 (by decide) rfl rfl (Nat.le_of_ble_eq_true rfl) ?_
        refine WP.goto (pc := 59) hC dX5_winterOnTrial_59 96 (by decide) ?_
        refine WP.vret (pc := 96) hC rfl dX5_winterOnTrial_96 ?_ ?_
        all_goals (first | rfl | (simp [wiF, h3, nzI, h17]; done) | (simp [wiF, h3, h34, nzI, h48]; done) | (unfold wiF; rw [if_neg h3, if_neg h34, if_pos h75]; rfl) | (rw [b2_0, Bool.and_eq_false_iff, decide_eq_false_iff_not, decide_eq_false_iff_not] at h75; unfold wiF; rw [if_neg h3, if_neg h34, if_neg (by omega)]))
  · rw [n20] at h3
    refine WP.aln (pc := 6) hC dX5_winterOnTrial_6 rfl ?_
    refine WP.gf (pc := 7) hC dX5_winterOnTrial_7 fl_X5_52 (by decide) rfl rfl ?_
    refine WP.aln (pc := 10) hC dX5_winterOnTrial_10 rfl ?_
    refine WP.gf (pc := 11) hC dX5_winterOnTrial_11 fl_X5_52 (by decide) rfl rfl ?_
    refine WP.gf (pc := 14) hC dX5_winterOnTrial_14 fl_X5_153 (by decide) rfl rfl ?_
    refine WP.ifne (pc := 17) hC dX5_winterOnTrial_17 24 (by decide) (fun h17 => ?_) (fun h17 => ?_)
    · refine WP.iconst (pc := 24) hC dX5_winterOnTrial_24 0 (by decide) ?_
      refine WP.pf (pc := 25) hC dX5_winterOnTrial_25 fp_X5_153 (nar_z (by first | exact Or.inl rfl | exact Or.inr rfl | exact b2_01 _)).2.1 (nar_z (by first | exact Or.inl rfl | exact Or.inr rfl | exact b2_01 _)).2.2 (by decide) rfl rfl (Nat.le_of_ble_eq_true rfl) ?_
      refine WP.goto (pc := 28) hC dX5_winterOnTrial_28 96 (by decide) ?_
      refine WP.vret (pc := 96) hC rfl dX5_winterOnTrial_96 ?_ ?_
      all_goals (first | rfl | (simp [wiF, h3, nzI, h17]; done) | (simp [wiF, h3, h34, nzI, h48]; done) | (unfold wiF; rw [if_neg h3, if_neg h34, if_pos h75]; rfl) | (rw [b2_0, Bool.and_eq_false_iff, decide_eq_false_iff_not, decide_eq_false_iff_not] at h75; unfold wiF; rw [if_neg h3, if_neg h34, if_neg (by omega)]))
    · refine WP.iconst (pc := 20) hC dX5_winterOnTrial_20 1 (by decide) ?_
      refine WP.goto (pc := 21) hC dX5_winterOnTrial_21 25 (by decide) ?_
      refine WP.pf (pc := 25) hC dX5_winterOnTrial_25 fp_X5_153 (nar_z (by first | exact Or.inl rfl | exact Or.inr rfl | exact b2_01 _)).2.1 (nar_z (by first | exact Or.inl rfl | exact Or.inr rfl | exact b2_01 _)).2.2 (by decide) rfl rfl (Nat.le_of_ble_eq_true rfl) ?_
      refine WP.goto (pc := 28) hC dX5_winterOnTrial_28 96 (by decide) ?_
      refine WP.vret (pc := 96) hC rfl dX5_winterOnTrial_96 ?_ ?_
      all_goals (first | rfl | (simp [wiF, h3, nzI, h17]; done) | (simp [wiF, h3, h34, nzI, h48]; done) | (unfold wiF; rw [if_neg h3, if_neg h34, if_pos h75]; rfl) | (rw [b2_0, Bool.and_eq_false_iff, decide_eq_false_iff_not, decide_eq_false_iff_not] at h75; unfold wiF; rw [if_neg h3, if_neg h34, if_neg (by omega)]))
set_option maxHeartbeats 4000000 in
theorem k_X5_winters (l : Launch) (F : FF) (L : Int64) (nr ns : Nat) (m : Int32) (hN : NR F nr ns) (hZ : BZ F) : CI l yX5_winters cX5_winters 3 (some .int) (rmx 6 139) wN [.ref 0, .int m] F L (wnR F L nr ns m) (wnV F L nr ns m).1 (wnV F L nr ns m).2 := by
  refine mkI [some (.ref 0), some (.int m), none] 1 (by decide) rfl (Nat.le_of_ble_eq_true rfl) ?_
  intro x d hx hC
  subst hx
  have hC : Cx x cX5_winters 3 RX5 (some .int) (rmx 6 139) wN d := hC
  have hz := hZ 19 (by decide) (by decide)
  refine WP.iln (pc := 0) hC dX5_winters_0 rfl ?_
  refine WP.iconst (pc := 1) hC dX5_winters_1 1 (by decide) ?_
  refine WP.iclt (pc := 2) hC dX5_winters_2 11 (by decide) (fun h2 => ?_) (fun h2 => ?_)
  · refine WP.bipush (pc := 11) hC dX5_winters_11 (-2) (by decide) ?_
    refine WP.iret (pc := 13) hC rfl dX5_winters_13 ?_ ?_ ?_
    all_goals (first | rfl | (unfold wnR; refine (if_neg ?_).symm; unfold wnOk; rw [Bool.and_eq_true, decide_eq_true_eq, decide_eq_true_eq]; rintro ⟨q1, q2⟩; first | exact i_nlt.mpr q1 h2 | exact h8 q2) | (unfold wnV; rw [if_neg]; unfold wnOk; rw [Bool.and_eq_true, decide_eq_true_eq, decide_eq_true_eq]; rintro ⟨q1, q2⟩; first | exact i_nlt.mpr q1 h2 | exact h8 q2))
  · refine WP.iln (pc := 5) hC dX5_winters_5 rfl ?_
    refine WP.bipush (pc := 6) hC dX5_winters_6 30 (by decide) ?_
    refine WP.icle (pc := 8) hC dX5_winters_8 14 (by decide) (fun h8 => ?_) (fun h8 => ?_)
    · obtain ⟨m, hm1, hm4, rfl⟩ := ixm (K := 30) (i_nlt.mp h2) h8 (by decide)
      have hok : wnOk (nI m) = true := by unfold wnOk; simp [i_nlt.mp h2, h8]
      have em : ix (nI m) = m := ix_nI (by omega)
      have eV : wnV F L nr ns (nI m) = wnN nr ns m (cpB F 36 19) L := by unfold wnV; rw [if_pos hok, em]
      rw [show wnR F L nr ns (nI m) = rgN (wnV F L nr ns (nI m)).1 36 ns by unfold wnR; rw [if_pos hok], eV]
      generalize hV : wnN nr ns m (cpB F 36 19) L = V
      have loop : ∀ (f k : Nat) (G : FF) (y : Int64), TG F G → k + f = m → wnN nr ns f G y = V → WP x 3 wN d (QI x wN d (rgN V.1 36 ns) V.1 V.2) 27 [some (.ref 0), some (.int (nI m)), some (.int (nI k))] [] G y := by
        intro f
        induction f with
        | zero =>
          intro k G y hG hk hv
          refine WP.iln (pc := 27) hC dX5_winters_27 rfl ?_
          refine WP.iln (pc := 28) hC dX5_winters_28 rfl ?_
          refine WP.icge (pc := 29) hC dX5_winters_29 70 (by decide) (fun h29 => ?_) (fun h29 => absurd h29 (fun q => q (nI_le (by omega) (by omega))))
          refine WP.aln (pc := 70) hC dX5_winters_70 rfl ?_
          refine WP.gf (pc := 71) hC dX5_winters_71 fl_X5_52 (by decide) rfl rfl ?_
          refine WP.aln (pc := 74) hC dX5_winters_74 rfl ?_
          refine WP.gf (pc := 75) hC dX5_winters_75 fl_X5_19 (by decide) rfl rfl ?_
          refine WP.callVI (pc := 78) hC dX5_winters_78 (k_X1_rightPapers _ G y 36 nr ns (by decide) (hG.nr hN)) ml_X5_249 rfl rfl (by decide) rfl (Nat.le_of_ble_eq_true rfl) ⟨by decide, by decide⟩ ?_
          refine WP.iret (pc := 81) hC rfl dX5_winters_81 ?_ ?_ ?_
          all_goals (first | rfl | (rw [← hv, wnN_0]))
        | succ f ih =>
          intro k G y hG hk hv
          refine WP.iln (pc := 27) hC dX5_winters_27 rfl ?_
          refine WP.iln (pc := 28) hC dX5_winters_28 rfl ?_
          refine WP.icge (pc := 29) hC dX5_winters_29 70 (by decide) (fun h29 => absurd h29 (nI_ge (by omega) (by omega))) (fun h29 => ?_)
          refine WP.aln (pc := 32) hC dX5_winters_32 rfl ?_
          refine WP.aln (pc := 33) hC dX5_winters_33 rfl ?_
          refine WP.gf (pc := 34) hC dX5_winters_34 fl_X5_236 (by decide) rfl rfl ?_
          refine WP.ldc2 (pc := 37) hC dX5_winters_37 cs_X5_240 ?_
          refine WP.lmul (pc := 40) hC dX5_winters_40 ?_
          refine WP.ldc2 (pc := 41) hC dX5_winters_41 cs_X5_242 ?_
          refine WP.ladd (pc := 44) hC dX5_winters_44 ?_
          refine WP.pfl (pc := 45) hC dX5_winters_45 cwN_L fp_X5_236 (by decide) rfl rfl (Nat.le_of_ble_eq_true rfl) ?_
          refine WP.aln (pc := 48) hC dX5_winters_48 rfl ?_
          refine WP.aln (pc := 49) hC dX5_winters_49 rfl ?_
          refine WP.gf (pc := 50) hC dX5_winters_50 fl_X5_236 (by decide) rfl rfl ?_
          refine WP.bipush (pc := 53) hC dX5_winters_53 33 (by decide) ?_
          refine WP.lushr (pc := 55) hC dX5_winters_55 ?_
          refine WP.ldc2 (pc := 56) hC dX5_winters_56 cs_X5_244 ?_
          refine WP.lrem (pc := 59) hC dX5_winters_59 (by decide) ?_
          refine WP.l2i (pc := 60) hC dX5_winters_60 ?_
          change WP _ _ _ _ _ _ _ (.int (wvI (sdN y)) :: _) _ _
          rw [(wv_ok (sdN y)).1]
          refine WP.callVV (pc := 61) hC dX5_winters_61 (k_X5_winterOnTrial _ G _ nr ns (wv (sdN y)) (hG.nr hN) hG.2 (wv_ok _).2) ml_X5_246 rfl rfl (by decide) rfl (Nat.le_of_ble_eq_true rfl) ⟨by decide, by decide⟩ ?_
          refine WP.iinc (lv' := [_, _, _]) (pc := 64) hC dX5_winters_64 rfl (_ + 1) rfl rfl (by decide) rfl ?_
          refine WP.goto (pc := 67) hC dX5_winters_67 27 (by decide) ?_
          rw [nIp1]
          rw [wnN_s] at hv
          exact ih _ _ _ hG.wi (by omega) hv
      refine WP.aln (pc := 14) hC dX5_winters_14 rfl ?_
      refine WP.gf (pc := 15) hC dX5_winters_15 fl_X5_52 (by decide) rfl rfl ?_
      refine WP.aln (pc := 18) hC dX5_winters_18 rfl ?_
      refine WP.gf (pc := 19) hC dX5_winters_19 fl_X5_26 (by decide) rfl rfl ?_
      refine WP.callVV (pc := 22) hC dX5_winters_22 (k_X1_copyFrom _ F L 36 19 (by decide) (by decide) (by decide) hz.1 hz.2) ml_X5_190 rfl rfl (by decide) rfl (Nat.le_of_ble_eq_true rfl) ⟨by decide, by decide⟩ ?_
      refine WP.iconst (pc := 25) hC dX5_winters_25 0 (by decide) ?_
      refine WP.isn (lv' := [_, _, _]) (pc := 26) hC dX5_winters_26 rfl (by decide) rfl ?_
      exact loop m 0 _ _ (TG.cp hZ) (by omega) hV
    · refine WP.bipush (pc := 11) hC dX5_winters_11 (-2) (by decide) ?_
      refine WP.iret (pc := 13) hC rfl dX5_winters_13 ?_ ?_ ?_
      all_goals (first | rfl | (unfold wnR; refine (if_neg ?_).symm; unfold wnOk; rw [Bool.and_eq_true, decide_eq_true_eq, decide_eq_true_eq]; rintro ⟨q1, q2⟩; first | exact i_nlt.mpr q1 h2 | exact h8 q2) | (unfold wnV; rw [if_neg]; unfold wnOk; rw [Bool.and_eq_true, decide_eq_true_eq, decide_eq_true_eq]; rintro ⟨q1, q2⟩; first | exact i_nlt.mpr q1 h2 | exact h8 q2))
set_option maxHeartbeats 4000000 in
theorem k_X5_saidIfGoneFrom (l : Launch) (F : FF) (L : Int64) (nr ns fr i m w : Nat) (hN : NR F nr ns) (hi : i < nr) (hm : m ≤ 6) (hfr0 : fr < 100) (hw : w < 2 ^ 31) (hsm : ∀ k, k < m → smOk w ns k = true) : CI l yX5_saidIfGoneFrom cX5_saidIfGoneFrom 9 (some .int) (rmx 3 70) wN [.ref 0, .int (nI fr), .int (nI i), .int (nI m), .int (nI w)] F L (nI (bits (gnS F i m w fr) m)) F L := by
  refine mkI [some (.ref 0), some (.int (nI fr)), some (.int (nI i)), some (.int (nI m)), some (.int (nI w)), none, none, none, none] 4 (by decide) rfl (Nat.le_of_ble_eq_true rfl) ?_
  intro x d hx hC
  subst hx
  have hC : Cx x cX5_saidIfGoneFrom 9 RX5 (some .int) (rmx 3 70) wN d := hC
  have loop : ∀ k, k ≤ m → ∀ a7 a8 : Option Value, WP x 9 wN d (QI x wN d (nI (bits (gnS F i m w fr) m)) F L) 6 [some (.ref 0), some (.int (nI fr)), some (.int (nI i)), some (.int (nI m)), some (.int (nI w)), some (.int (nI (bits (gnS F i m w fr) k))), some (.int (nI k)), a7, a8] [] F L := by
    refine loop_c (n := m) (P := fun k => ∀ a7 a8 : Option Value, WP x 9 wN d (QI x wN d (nI (bits (gnS F i m w fr) m)) F L) 6 [some (.ref 0), some (.int (nI fr)), some (.int (nI i)), some (.int (nI m)), some (.int (nI w)), some (.int (nI (bits (gnS F i m w fr) k))), some (.int (nI k)), a7, a8] [] F L) ?_
    intro k hk0 ih a7 a8
    refine WP.il (pc := 6) hC dX5_saidIfGoneFrom_6 rfl ?_
    refine WP.iln (pc := 8) hC dX5_saidIfGoneFrom_8 rfl ?_
    refine WP.icge (pc := 9) hC dX5_saidIfGoneFrom_9 89 (by decide) (fun h9 => ?_) (fun h9 => ?_)
    · have hk9 : k = m := by
        have := (nI_leI (by omega) (by omega)).mp h9
        omega
      subst hk9
      refine WP.il (pc := 89) hC dX5_saidIfGoneFrom_89 rfl ?_
      refine WP.iret (pc := 91) hC rfl dX5_saidIfGoneFrom_91 ?_ ?_ ?_
      all_goals (rfl)
    · have hk : k < m := (nI_ltI (by omega) (by omega)).mp (i_nle.mp h9)
      have hv := ih hk
      have hs := smOk_of hN.2.2.2 (hsm (m - 1 - k) (by omega))
      refine WP.il (pc := 12) hC dX5_saidIfGoneFrom_12 rfl ?_
      refine WP.iln (pc := 14) hC dX5_saidIfGoneFrom_14 rfl ?_
      refine WP.iconst (pc := 15) hC dX5_saidIfGoneFrom_15 1 (by decide) ?_
      refine WP.isub (pc := 16) hC dX5_saidIfGoneFrom_16 ?_
      refine WP.il (pc := 17) hC dX5_saidIfGoneFrom_17 rfl ?_
      refine WP.isub (pc := 19) hC dX5_saidIfGoneFrom_19 ?_
      rw [show nI m - 1 - nI k = nI (m - 1 - k) by rw [show nI m - 1 = nI (m - 1) from pk_sub (b := 1) (by omega), pk_sub (by omega)]]
      refine WP.callSI (pc := 20) hC dX5_saidIfGoneFrom_20 (k_X5_figure _ F L wN w (m - 1 - k) hw (by omega)) ml_X5_193 rfl rfl (Nat.le_of_ble_eq_true rfl) ⟨by decide, by decide⟩ ?_
      refine WP.iconst (pc := 23) hC dX5_saidIfGoneFrom_23 1 (by decide) ?_
      refine WP.isub (pc := 24) hC dX5_saidIfGoneFrom_24 ?_
      rw [hs.2.2]
      refine WP.is (lv' := [_, _, _, _, _, _, _, _, _]) (pc := 25) hC dX5_saidIfGoneFrom_25 rfl (by decide) rfl ?_
      refine WP.aln (pc := 27) hC dX5_saidIfGoneFrom_27 rfl ?_
      refine WP.gf (pc := 28) hC dX5_saidIfGoneFrom_28 fl_X5_19 (by decide) rfl rfl ?_
      refine WP.iln (pc := 31) hC dX5_saidIfGoneFrom_31 rfl ?_
      refine WP.il (pc := 32) hC dX5_saidIfGoneFrom_32 rfl ?_
      refine WP.aln (pc := 34) hC dX5_saidIfGoneFrom_34 rfl ?_
      refine WP.gf (pc := 35) hC dX5_saidIfGoneFrom_35 fl_X5_19 (by decide) rfl rfl ?_
      refine WP.iln (pc := 38) hC dX5_saidIfGoneFrom_38 rfl ?_
      refine WP.callVI (pc := 39) hC dX5_saidIfGoneFrom_39 (k_X3_expectsOf _ F L nr ns i hN hi) ml_X5_263 rfl rfl (by decide) rfl (Nat.le_of_ble_eq_true rfl) ⟨by decide, by decide⟩ ?_
      refine WP.il (pc := 42) hC dX5_saidIfGoneFrom_42 rfl ?_
      refine WP.il (pc := 44) hC dX5_saidIfGoneFrom_44 rfl ?_
      refine WP.iln (pc := 46) hC dX5_saidIfGoneFrom_46 rfl ?_
      refine WP.icge (pc := 47) hC dX5_saidIfGoneFrom_47 54 (by decide) (fun h47 => ?_) (fun h47 => ?_)
      · have hfr : ¬ k < fr := fun q => nI_ge q (by omega) h47
        refine WP.iconst (pc := 54) hC dX5_saidIfGoneFrom_54 0 (by decide) ?_
        refine WP.iconst (pc := 55) hC dX5_saidIfGoneFrom_55 1 (by decide) ?_
        refine WP.callVI (pc := 56) hC dX5_saidIfGoneFrom_56 (k_X3_seen _ F L nr ns i (fig w (m - 1 - k) - 1) (F 4 i) (nI k) false true hN hi hs.2.1) ml_X5_256 rfl rfl (by decide) rfl (Nat.le_of_ble_eq_true rfl) ⟨by decide, by decide⟩ ?_
        refine WP.is (lv' := [_, _, _, _, _, _, _, _, _]) (pc := 59) hC dX5_saidIfGoneFrom_59 rfl (by decide) rfl ?_
        refine WP.aln (pc := 61) hC dX5_saidIfGoneFrom_61 rfl ?_
        refine WP.gf (pc := 62) hC dX5_saidIfGoneFrom_62 fl_X5_19 (by decide) rfl rfl ?_
        refine WP.iln (pc := 65) hC dX5_saidIfGoneFrom_65 rfl ?_
        refine WP.il (pc := 66) hC dX5_saidIfGoneFrom_66 rfl ?_
        refine WP.callVI (pc := 68) hC dX5_saidIfGoneFrom_68 (k_X3_saysYes _ F L nr ns i _ hN hi) ml_X5_260 rfl rfl (by decide) rfl (Nat.le_of_ble_eq_true rfl) ⟨by decide, by decide⟩ ?_
        have hg : ∀ z, z = decide (k < fr) → saysB (F 6 i) (F 5 i) (sees (F 6 i) (F 4 i) (lits z (F 7 (fig w (m - 1 - k) - 1))) (nI k) true) = gnS F i m w fr k := fun z hz => by rw [hz]; rfl
        first | rw [hg true (by simp [hfr])] | rw [hg false (by simp [hfr])]
        refine WP.ifeq (pc := 71) hC dX5_saidIfGoneFrom_71 83 (by decide) (fun h71 => ?_) (fun h71 => ?_)
        · refine WP.iinc (lv' := [_, _, _, _, _, _, _, _, _]) (pc := 83) hC dX5_saidIfGoneFrom_83 rfl (_ + 1) rfl rfl (by decide) rfl ?_
          refine WP.goto (pc := 86) hC dX5_saidIfGoneFrom_86 6 (by decide) ?_
          rw [nIp1]
          first | (rw [b2_n0] at h71; rw [bits_t (f := gnS F i m w fr) h71] at hv; exact hv _ _) | (rw [b2_0] at h71; rw [bits_f (f := gnS F i m w fr) h71] at hv; exact hv _ _)
        · refine WP.il (pc := 74) hC dX5_saidIfGoneFrom_74 rfl ?_
          refine WP.iconst (pc := 76) hC dX5_saidIfGoneFrom_76 1 (by decide) ?_
          refine WP.il (pc := 77) hC dX5_saidIfGoneFrom_77 rfl ?_
          refine WP.ishl (pc := 79) hC dX5_saidIfGoneFrom_79 ?_
          refine WP.ior (pc := 80) hC dX5_saidIfGoneFrom_80 ?_
          rw [shX k (by omega), or_bitX k (by omega) _ (bits_lt _ _)]
          refine WP.is (lv' := [_, _, _, _, _, _, _, _, _]) (pc := 81) hC dX5_saidIfGoneFrom_81 rfl (by decide) rfl ?_
          refine WP.iinc (lv' := [_, _, _, _, _, _, _, _, _]) (pc := 83) hC dX5_saidIfGoneFrom_83 rfl (_ + 1) rfl rfl (by decide) rfl ?_
          refine WP.goto (pc := 86) hC dX5_saidIfGoneFrom_86 6 (by decide) ?_
          rw [nIp1]
          first | (rw [b2_n0] at h71; rw [bits_t (f := gnS F i m w fr) h71] at hv; exact hv _ _) | (rw [b2_0] at h71; rw [bits_f (f := gnS F i m w fr) h71] at hv; exact hv _ _)
      · have hfr : k < fr := (nI_ltI (by omega) (by omega)).mp (i_nle.mp h47)
        refine WP.iconst (pc := 50) hC dX5_saidIfGoneFrom_50 1 (by decide) ?_
        refine WP.goto (pc := 51) hC dX5_saidIfGoneFrom_51 55 (by decide) ?_
        refine WP.iconst (pc := 55) hC dX5_saidIfGoneFrom_55 1 (by decide) ?_
        refine WP.callVI (pc := 56) hC dX5_saidIfGoneFrom_56 (k_X3_seen _ F L nr ns i (fig w (m - 1 - k) - 1) (F 4 i) (nI k) true true hN hi hs.2.1) ml_X5_256 rfl rfl (by decide) rfl (Nat.le_of_ble_eq_true rfl) ⟨by decide, by decide⟩ ?_
        refine WP.is (lv' := [_, _, _, _, _, _, _, _, _]) (pc := 59) hC dX5_saidIfGoneFrom_59 rfl (by decide) rfl ?_
        refine WP.aln (pc := 61) hC dX5_saidIfGoneFrom_61 rfl ?_
        refine WP.gf (pc := 62) hC dX5_saidIfGoneFrom_62 fl_X5_19 (by decide) rfl rfl ?_
        refine WP.iln (pc := 65) hC dX5_saidIfGoneFrom_65 rfl ?_
        refine WP.il (pc := 66) hC dX5_saidIfGoneFrom_66 rfl ?_
        refine WP.callVI (pc := 68) hC dX5_saidIfGoneFrom_68 (k_X3_saysYes _ F L nr ns i _ hN hi) ml_X5_260 rfl rfl (by decide) rfl (Nat.le_of_ble_eq_true rfl) ⟨by decide, by decide⟩ ?_
        have hg : ∀ z, z = decide (k < fr) → saysB (F 6 i) (F 5 i) (sees (F 6 i) (F 4 i) (lits z (F 7 (fig w (m - 1 - k) - 1))) (nI k) true) = gnS F i m w fr k := fun z hz => by rw [hz]; rfl
        first | rw [hg true (by simp [hfr])] | rw [hg false (by simp [hfr])]
        refine WP.ifeq (pc := 71) hC dX5_saidIfGoneFrom_71 83 (by decide) (fun h71 => ?_) (fun h71 => ?_)
        · refine WP.iinc (lv' := [_, _, _, _, _, _, _, _, _]) (pc := 83) hC dX5_saidIfGoneFrom_83 rfl (_ + 1) rfl rfl (by decide) rfl ?_
          refine WP.goto (pc := 86) hC dX5_saidIfGoneFrom_86 6 (by decide) ?_
          rw [nIp1]
          first | (rw [b2_n0] at h71; rw [bits_t (f := gnS F i m w fr) h71] at hv; exact hv _ _) | (rw [b2_0] at h71; rw [bits_f (f := gnS F i m w fr) h71] at hv; exact hv _ _)
        · refine WP.il (pc := 74) hC dX5_saidIfGoneFrom_74 rfl ?_
          refine WP.iconst (pc := 76) hC dX5_saidIfGoneFrom_76 1 (by decide) ?_
          refine WP.il (pc := 77) hC dX5_saidIfGoneFrom_77 rfl ?_
          refine WP.ishl (pc := 79) hC dX5_saidIfGoneFrom_79 ?_
          refine WP.ior (pc := 80) hC dX5_saidIfGoneFrom_80 ?_
          rw [shX k (by omega), or_bitX k (by omega) _ (bits_lt _ _)]
          refine WP.is (lv' := [_, _, _, _, _, _, _, _, _]) (pc := 81) hC dX5_saidIfGoneFrom_81 rfl (by decide) rfl ?_
          refine WP.iinc (lv' := [_, _, _, _, _, _, _, _, _]) (pc := 83) hC dX5_saidIfGoneFrom_83 rfl (_ + 1) rfl rfl (by decide) rfl ?_
          refine WP.goto (pc := 86) hC dX5_saidIfGoneFrom_86 6 (by decide) ?_
          rw [nIp1]
          first | (rw [b2_n0] at h71; rw [bits_t (f := gnS F i m w fr) h71] at hv; exact hv _ _) | (rw [b2_0] at h71; rw [bits_f (f := gnS F i m w fr) h71] at hv; exact hv _ _)
  refine WP.iconst (pc := 0) hC dX5_saidIfGoneFrom_0 0 (by decide) ?_
  refine WP.is (lv' := [_, _, _, _, _, _, _, _, _]) (pc := 1) hC dX5_saidIfGoneFrom_1 rfl (by decide) rfl ?_
  refine WP.iconst (pc := 3) hC dX5_saidIfGoneFrom_3 0 (by decide) ?_
  refine WP.is (lv' := [_, _, _, _, _, _, _, _, _]) (pc := 4) hC dX5_saidIfGoneFrom_4 rfl (by decide) rfl ?_
  exact loop 0 (Nat.zero_le _) _ _
set_option maxHeartbeats 4000000 in
theorem k_X5_gone (l : Launch) (F : FF) (L : Int64) (nr ns : Nat) (r n row said : Int32) (hN : NR F nr ns) : CI l yX5_gone cX5_gone 7 (some .int) (rmx 4 98) wN [.ref 0, .int r, .int n, .int row, .int said] F L (gnR F nr ns r n row said) F L := by
  refine mkI [some (.ref 0), some (.int r), some (.int n), some (.int row), some (.int said), none, none] 2 (by decide) rfl (Nat.le_of_ble_eq_true rfl) ?_
  intro x d hx hC
  subst hx
  have hC : Cx x cX5_gone 7 RX5 (some .int) (rmx 4 98) wN d := hC
  refine WP.aln (pc := 0) hC dX5_gone_0 rfl ?_
  refine WP.gf (pc := 1) hC dX5_gone_1 fl_X5_19 (by decide) rfl rfl ?_
  refine WP.iln (pc := 4) hC dX5_gone_4 rfl ?_
  refine WP.callVI (pc := 5) hC dX5_gone_5 (k_X3_hasReader _ F L nr ns r hN) ml_X5_88 rfl rfl (by decide) rfl (Nat.le_of_ble_eq_true rfl) ⟨by decide, by decide⟩ ?_
  refine WP.ifne (pc := 8) hC dX5_gone_8 13 (by decide) (fun h8 => ?_) (fun h8 => ?_)
  · rw [b2_n0] at h8
    obtain ⟨i, hi, rfl⟩ := hasB_of hN.2.2.1 h8
    refine WP.iln (pc := 13) hC dX5_gone_13 rfl ?_
    refine WP.iconst (pc := 14) hC dX5_gone_14 1 (by decide) ?_
    refine WP.iclt (pc := 15) hC dX5_gone_15 45 (by decide) (fun h15 => ?_) (fun h15 => ?_)
    · refine WP.bipush (pc := 45) hC dX5_gone_45 (-2) (by decide) ?_
      refine WP.iret (pc := 47) hC rfl dX5_gone_47 ?_ ?_ ?_
      all_goals (first | rfl | (unfold gnR; rw [if_pos h8]; refine (if_neg ?_).symm; unfold gnOk; rw [Bool.and_eq_true, Bool.and_eq_true, Bool.and_eq_true, Bool.and_eq_true, decide_eq_true_eq, decide_eq_true_eq, decide_eq_true_eq, decide_eq_true_eq]; rintro ⟨⟨q1, q2⟩, q3, q4, q5⟩; first | exact i_nlt.mpr q1 h15 | exact i_nlt.mpr q2 h21 | exact i_nlt.mpr q4 h34 | (rw [shX _ (by omega)] at h42; rw [ix_nI (by omega)] at q5; exact h42 q5) | (rw [b2_0] at h29; rw [ix_nI (by omega), h29] at q3; cases q3)))
    · refine WP.iln (pc := 18) hC dX5_gone_18 rfl ?_
      refine WP.bipush (pc := 19) hC dX5_gone_19 6 (by decide) ?_
      refine WP.icgt (pc := 21) hC dX5_gone_21 45 (by decide) (fun h21 => ?_) (fun h21 => ?_)
      · refine WP.bipush (pc := 45) hC dX5_gone_45 (-2) (by decide) ?_
        refine WP.iret (pc := 47) hC rfl dX5_gone_47 ?_ ?_ ?_
        all_goals (first | rfl | (unfold gnR; rw [if_pos h8]; refine (if_neg ?_).symm; unfold gnOk; rw [Bool.and_eq_true, Bool.and_eq_true, Bool.and_eq_true, Bool.and_eq_true, decide_eq_true_eq, decide_eq_true_eq, decide_eq_true_eq, decide_eq_true_eq]; rintro ⟨⟨q1, q2⟩, q3, q4, q5⟩; first | exact i_nlt.mpr q1 h15 | exact i_nlt.mpr q2 h21 | exact i_nlt.mpr q4 h34 | (rw [shX _ (by omega)] at h42; rw [ix_nI (by omega)] at q5; exact h42 q5) | (rw [b2_0] at h29; rw [ix_nI (by omega), h29] at q3; cases q3)))
      · obtain ⟨m, hm1, hm6, rfl⟩ := ixm (K := 6) (i_nlt.mp h15) (i_nlt.mp h21) (by decide)
        refine WP.iln (pc := 24) hC dX5_gone_24 rfl ?_
        refine WP.iln (pc := 25) hC dX5_gone_25 rfl ?_
        refine WP.callSI (pc := 26) hC dX5_gone_26 (k_X5_hasFigures _ F L wN row m (by omega)) ml_X5_187 rfl rfl (Nat.le_of_ble_eq_true rfl) ⟨by decide, by decide⟩ ?_
        refine WP.ifeq (pc := 29) hC dX5_gone_29 45 (by decide) (fun h29 => ?_) (fun h29 => ?_)
        · refine WP.bipush (pc := 45) hC dX5_gone_45 (-2) (by decide) ?_
          refine WP.iret (pc := 47) hC rfl dX5_gone_47 ?_ ?_ ?_
          all_goals (first | rfl | (unfold gnR; rw [if_pos h8]; refine (if_neg ?_).symm; unfold gnOk; rw [Bool.and_eq_true, Bool.and_eq_true, Bool.and_eq_true, Bool.and_eq_true, decide_eq_true_eq, decide_eq_true_eq, decide_eq_true_eq, decide_eq_true_eq]; rintro ⟨⟨q1, q2⟩, q3, q4, q5⟩; first | exact i_nlt.mpr q1 h15 | exact i_nlt.mpr q2 h21 | exact i_nlt.mpr q4 h34 | (rw [shX _ (by omega)] at h42; rw [ix_nI (by omega)] at q5; exact h42 q5) | (rw [b2_0] at h29; rw [ix_nI (by omega), h29] at q3; cases q3)))
        · rw [b2_n0] at h29
          obtain ⟨w, hw, rfl⟩ := nI_of (x := row) (by
            have h29 := h29
            unfold rowOk at h29
            rw [Bool.and_eq_true, decide_eq_true_eq] at h29
            exact i_nlt.mpr h29.1)
          refine WP.il (pc := 32) hC dX5_gone_32 rfl ?_
          refine WP.iflt (pc := 34) hC dX5_gone_34 45 (by decide) (fun h34 => ?_) (fun h34 => ?_)
          · refine WP.bipush (pc := 45) hC dX5_gone_45 (-2) (by decide) ?_
            refine WP.iret (pc := 47) hC rfl dX5_gone_47 ?_ ?_ ?_
            all_goals (first | rfl | (unfold gnR; rw [if_pos h8]; refine (if_neg ?_).symm; unfold gnOk; rw [Bool.and_eq_true, Bool.and_eq_true, Bool.and_eq_true, Bool.and_eq_true, decide_eq_true_eq, decide_eq_true_eq, decide_eq_true_eq, decide_eq_true_eq]; rintro ⟨⟨q1, q2⟩, q3, q4, q5⟩; first | exact i_nlt.mpr q1 h15 | exact i_nlt.mpr q2 h21 | exact i_nlt.mpr q4 h34 | (rw [shX _ (by omega)] at h42; rw [ix_nI (by omega)] at q5; exact h42 q5) | (rw [b2_0] at h29; rw [ix_nI (by omega), h29] at q3; cases q3)))
          · refine WP.il (pc := 37) hC dX5_gone_37 rfl ?_
            refine WP.iconst (pc := 39) hC dX5_gone_39 1 (by decide) ?_
            refine WP.iln (pc := 40) hC dX5_gone_40 rfl ?_
            refine WP.ishl (pc := 41) hC dX5_gone_41 ?_
            refine WP.iclt (pc := 42) hC dX5_gone_42 48 (by decide) (fun h42 => ?_) (fun h42 => ?_)
            · have hok : gnOk (nI m) (nI w) said = true := by
                unfold gnOk
                rw [ix_nI (by omega), h29]
                rw [shX m (by omega)] at h42
                simp [i_nlt.mp h15, i_nlt.mp h21, i_nlt.mp h34, h42]
              have ei : ix (nI i) = i := ix_nI (by have := hN.2.2.1; omega)
              have em : ix (nI m) = m := ix_nI (by omega)
              have ew : ix (nI w) = w := nI_clamp hw
              have hV0 : allN (smOk w ns) m = false → gnR F nr ns (nI i) (nI m) (nI w) said = -3 := fun q => by unfold gnR; rw [if_pos h8, if_pos hok, ew, em, q]; rfl
              have hV1 : allN (smOk w ns) m = true → gnR F nr ns (nI i) (nI m) (nI w) said = nI (bits (fun fr => decide (nI (bits (gnS F i m w fr) m) = said)) (m + 1)) := fun q => by unfold gnR; rw [if_pos h8, if_pos hok, ew, em, ei, if_pos q]
              generalize gnR F nr ns (nI i) (nI m) (nI w) said = V at hV0 hV1 ⊢
              have loop : ∀ k, k ≤ m → ∀ a6 : Option Value, allN (smOk w ns) k = true → WP x 7 wN d (QI x wN d V F L) 51 [some (.ref 0), some (.int (nI i)), some (.int (nI m)), some (.int (nI w)), some (.int said), some (.int (nI k)), a6] [] F L := by
                refine loop_c (n := m) (P := fun k => ∀ a6 : Option Value, allN (smOk w ns) k = true → WP x 7 wN d (QI x wN d V F L) 51 [some (.ref 0), some (.int (nI i)), some (.int (nI m)), some (.int (nI w)), some (.int said), some (.int (nI k)), a6] [] F L) ?_
                intro k hk0 ih a6 ha
                refine WP.il (pc := 51) hC dX5_gone_51 rfl ?_
                refine WP.iln (pc := 53) hC dX5_gone_53 rfl ?_
                refine WP.icge (pc := 54) hC dX5_gone_54 84 (by decide) (fun h54 => ?_) (fun h54 => ?_)
                · have hk9 : k = m := by
                    have := (nI_leI (by omega) (by omega)).mp h54
                    omega
                  subst hk9
                  have hsm : ∀ q, q < k → smOk w ns q = true := allN_t ha
                  have hV1 := hV1 ha
                  have loop2 : ∀ fr, fr ≤ k + 1 → WP x 7 wN d (QI x wN d V F L) 90 [some (.ref 0), some (.int (nI i)), some (.int (nI k)), some (.int (nI w)), some (.int said), some (.int (nI (bits (fun fr => decide (nI (bits (gnS F i k w fr) k) = said)) fr))), some (.int (nI fr))] [] F L := by
                    refine loop_c (n := k + 1) (P := fun fr => WP x 7 wN d (QI x wN d V F L) 90 [some (.ref 0), some (.int (nI i)), some (.int (nI k)), some (.int (nI w)), some (.int said), some (.int (nI (bits (fun fr => decide (nI (bits (gnS F i k w fr) k) = said)) fr))), some (.int (nI fr))] [] F L) ?_
                    intro fr hf0 ih
                    refine WP.il (pc := 90) hC dX5_gone_90 rfl ?_
                    refine WP.iln (pc := 92) hC dX5_gone_92 rfl ?_
                    refine WP.icgt (pc := 93) hC dX5_gone_93 125 (by decide) (fun h93 => ?_) (fun h93 => ?_)
                    · have hf9 : fr = k + 1 := by
                        have := (nI_ltI (by omega) (by omega)).mp h93
                        omega
                      subst hf9
                      refine WP.il (pc := 125) hC dX5_gone_125 rfl ?_
                      refine WP.iret (pc := 127) hC rfl dX5_gone_127 ?_ ?_ ?_
                      all_goals (first | rfl | exact hV1.symm)
                    · have hf : fr < k + 1 := by
                        have := (nI_leI (by omega) (by omega)).mp (i_nlt.mp h93)
                        omega
                      have hv := ih hf
                      refine WP.aln (pc := 96) hC dX5_gone_96 rfl ?_
                      refine WP.il (pc := 97) hC dX5_gone_97 rfl ?_
                      refine WP.iln (pc := 99) hC dX5_gone_99 rfl ?_
                      refine WP.iln (pc := 100) hC dX5_gone_100 rfl ?_
                      refine WP.iln (pc := 101) hC dX5_gone_101 rfl ?_
                      refine WP.callVI (pc := 102) hC dX5_gone_102 (k_X5_saidIfGoneFrom _ F L nr ns fr i k w hN hi hm6 (by omega) hw hsm) ml_X5_206 rfl rfl (by decide) rfl (Nat.le_of_ble_eq_true rfl) ⟨by decide, by decide⟩ ?_
                      refine WP.il (pc := 105) hC dX5_gone_105 rfl ?_
                      refine WP.icne (pc := 107) hC dX5_gone_107 119 (by decide) (fun h107 => ?_) (fun h107 => ?_)
                      · refine WP.iinc (lv' := [_, _, _, _, _, _, _]) (pc := 119) hC dX5_gone_119 rfl (_ + 1) rfl rfl (by decide) rfl ?_
                        refine WP.goto (pc := 122) hC dX5_gone_122 90 (by decide) ?_
                        rw [nIp1]
                        first | (rw [bits_t (f := fun fr => decide (nI (bits (gnS F i k w fr) k) = said)) (by simp [h107])] at hv; exact hv) | (rw [bits_f (f := fun fr => decide (nI (bits (gnS F i k w fr) k) = said)) (by simp [h107])] at hv; exact hv)
                      · refine WP.il (pc := 110) hC dX5_gone_110 rfl ?_
                        refine WP.iconst (pc := 112) hC dX5_gone_112 1 (by decide) ?_
                        refine WP.il (pc := 113) hC dX5_gone_113 rfl ?_
                        refine WP.ishl (pc := 115) hC dX5_gone_115 ?_
                        refine WP.ior (pc := 116) hC dX5_gone_116 ?_
                        rw [shX fr (by omega), or_bitX fr (by omega) _ (bits_lt _ _)]
                        refine WP.is (lv' := [_, _, _, _, _, _, _]) (pc := 117) hC dX5_gone_117 rfl (by decide) rfl ?_
                        refine WP.iinc (lv' := [_, _, _, _, _, _, _]) (pc := 119) hC dX5_gone_119 rfl (_ + 1) rfl rfl (by decide) rfl ?_
                        refine WP.goto (pc := 122) hC dX5_gone_122 90 (by decide) ?_
                        rw [nIp1]
                        first | (rw [bits_t (f := fun fr => decide (nI (bits (gnS F i k w fr) k) = said)) (by simp [h107])] at hv; exact hv) | (rw [bits_f (f := fun fr => decide (nI (bits (gnS F i k w fr) k) = said)) (by simp [h107])] at hv; exact hv)
                  refine WP.iconst (pc := 84) hC dX5_gone_84 0 (by decide) ?_
                  refine WP.is (lv' := [_, _, _, _, _, _, _]) (pc := 85) hC dX5_gone_85 rfl (by decide) rfl ?_
                  refine WP.iconst (pc := 87) hC dX5_gone_87 0 (by decide) ?_
                  refine WP.is (lv' := [_, _, _, _, _, _, _]) (pc := 88) hC dX5_gone_88 rfl (by decide) rfl ?_
                  exact loop2 0 (Nat.zero_le _)
                · have hk : k < m := (nI_ltI (by omega) (by omega)).mp (i_nle.mp h54)
                  have hv := ih hk
                  refine WP.aln (pc := 57) hC dX5_gone_57 rfl ?_
                  refine WP.gf (pc := 58) hC dX5_gone_58 fl_X5_19 (by decide) rfl rfl ?_
                  refine WP.iln (pc := 61) hC dX5_gone_61 rfl ?_
                  refine WP.il (pc := 62) hC dX5_gone_62 rfl ?_
                  refine WP.callSI (pc := 64) hC dX5_gone_64 (k_X5_figure _ F L wN w k hw (by omega)) ml_X5_193 rfl rfl (Nat.le_of_ble_eq_true rfl) ⟨by decide, by decide⟩ ?_
                  refine WP.iconst (pc := 67) hC dX5_gone_67 1 (by decide) ?_
                  refine WP.isub (pc := 68) hC dX5_gone_68 ?_
                  refine WP.callVI (pc := 69) hC dX5_gone_69 (k_X3_hasSample _ F L nr ns _ hN) ml_X5_104 rfl rfl (by decide) rfl (Nat.le_of_ble_eq_true rfl) ⟨by decide, by decide⟩ ?_
                  rw [show hasB (nI (fig w k) - 1) ns = smOk w ns k from rfl]
                  refine WP.ifne (pc := 72) hC dX5_gone_72 78 (by decide) (fun h72 => ?_) (fun h72 => ?_)
                  · rw [b2_n0] at h72
                    refine WP.iinc (lv' := [_, _, _, _, _, _, _]) (pc := 78) hC dX5_gone_78 rfl (_ + 1) rfl rfl (by decide) rfl ?_
                    refine WP.goto (pc := 81) hC dX5_gone_81 51 (by decide) ?_
                    rw [nIp1]
                    exact hv _ (by rw [allN, ha, h72]; rfl)
                  · rw [b2_0] at h72
                    refine WP.bipush (pc := 75) hC dX5_gone_75 (-3) (by decide) ?_
                    refine WP.iret (pc := 77) hC rfl dX5_gone_77 ?_ ?_ ?_
                    all_goals (first | rfl | (rw [hV0 (allN_f h72 m hk)]))
              refine WP.iconst (pc := 48) hC dX5_gone_48 0 (by decide) ?_
              refine WP.is (lv' := [_, _, _, _, _, _, _]) (pc := 49) hC dX5_gone_49 rfl (by decide) rfl ?_
              exact loop 0 (Nat.zero_le _) _ rfl
            · refine WP.bipush (pc := 45) hC dX5_gone_45 (-2) (by decide) ?_
              refine WP.iret (pc := 47) hC rfl dX5_gone_47 ?_ ?_ ?_
              all_goals (first | rfl | (unfold gnR; rw [if_pos h8]; refine (if_neg ?_).symm; unfold gnOk; rw [Bool.and_eq_true, Bool.and_eq_true, Bool.and_eq_true, Bool.and_eq_true, decide_eq_true_eq, decide_eq_true_eq, decide_eq_true_eq, decide_eq_true_eq]; rintro ⟨⟨q1, q2⟩, q3, q4, q5⟩; first | exact i_nlt.mpr q1 h15 | exact i_nlt.mpr q2 h21 | exact i_nlt.mpr q4 h34 | (rw [shX _ (by omega)] at h42; rw [ix_nI (by omega)] at q5; exact h42 q5) | (rw [b2_0] at h29; rw [ix_nI (by omega), h29] at q3; cases q3)))
  · rw [b2_0] at h8
    refine WP.iconst (pc := 11) hC dX5_gone_11 (-1) (by decide) ?_
    refine WP.iret (pc := 12) hC rfl dX5_gone_12 ?_ ?_ ?_
    all_goals (first | rfl | (unfold gnR; rw [if_neg (by rw [h8]; decide)]))
