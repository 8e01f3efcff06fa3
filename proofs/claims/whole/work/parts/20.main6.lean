/-! ===== NewRays: share, rests, flicker ===== -/
def fct : Nat → Nat
  | 0 => 1
  | n + 1 => (n + 1) * fct n
theorem fct_eq : ∀ k, k < 6 → factV.getD k 0 = nI (fct k) := by decide
theorem nI_and (a b : Nat) : nI a &&& nI b = nI (a &&& b) := by
  apply Int32.toBitVec_inj.mp
  rw [Int32.toBitVec_and]
  show BitVec.ofNat 32 a &&& BitVec.ofNat 32 b = BitVec.ofNat 32 (a &&& b)
  apply BitVec.eq_of_getLsbD_eq
  intro i hi
  simp [BitVec.getLsbD_ofNat, Nat.testBit_and, hi]
theorem nI_or (a b : Nat) : nI a ||| nI b = nI (a ||| b) := by
  apply Int32.toBitVec_inj.mp
  rw [Int32.toBitVec_or]
  show BitVec.ofNat 32 a ||| BitVec.ofNat 32 b = BitVec.ofNat 32 (a ||| b)
  apply BitVec.eq_of_getLsbD_eq
  intro i hi
  simp [BitVec.getLsbD_ofNat, Nat.testBit_or, hi]
def cntN (f : Nat → Bool) : Nat → Nat
  | 0 => 0
  | n + 1 => cntN f n + (if f n = true then 1 else 0)
theorem cntN_le (f : Nat → Bool) : ∀ n, cntN f n ≤ n
  | 0 => Nat.le_refl _
  | n + 1 => by
    have := cntN_le f n
    rw [cntN]
    split <;> omega
def rbN (g : Nat → Nat) (ns q : Nat) : Nat := cntN (fun s => decide (pcN q < 2 * pcN (g s &&& q))) ns
theorem and_lt32 {a b : Nat} (h : b < 32) : a &&& b < 32 := Nat.and_lt_two_pow (n := 5) a h
theorem or_lt32 {a b : Nat} (ha : a < 32) (h : b < 32) : a ||| b < 32 := Nat.or_lt_two_pow (n := 5) ha h
/-- the sum of shares, over sets without the reader's bit -/
def shG (i : Nat) (od rb : Nat → Int32) : Nat → Int32
  | 0 => 0
  | q + 1 => if q &&& 2 ^ i = 0 then shG i od rb q + od q * (rb (q ||| 2 ^ i) - rb q) else shG i od rb q
def ordN (nr q : Nat) : Nat := fct (pcN q) * fct (nr - 1 - pcN q)
theorem pc_free : ∀ nr, nr ≤ 5 → ∀ i, i < nr → ∀ q, q < 2 ^ nr → q &&& 2 ^ i = 0 → pcN q ≤ nr - 1 := by decide +kernel
def eu : Nat → Nat → Nat → Nat
  | 0, a, _ => a
  | f + 1, a, b => if b = 0 then a else eu f b (a % b)
theorem eu_gcd : ∀ f a b, b < 2 ^ f → eu (2 * f) a b = Nat.gcd a b
  | 0, a, b, h => by
    have : b = 0 := by omega
    subst this
    simp [eu]
  | f + 1, a, b, h => by
    show eu (2 * f + 1 + 1) a b = _
    rw [eu]
    by_cases hb : b = 0
    · simp [hb]
    · rw [if_neg hb, eu]
      have e1 : Nat.gcd a b = Nat.gcd b (a % b) := by rw [Nat.gcd_comm a b, Nat.gcd_rec b a, Nat.gcd_comm]
      have hr : a % b < b := Nat.mod_lt _ (by omega)
      by_cases hz : a % b = 0
      · rw [if_pos hz, e1, hz, Nat.gcd_zero_right]
      · rw [if_neg hz]
        have e2 : Nat.gcd b (a % b) = Nat.gcd (a % b) (b % (a % b)) := by rw [Nat.gcd_comm b, Nat.gcd_rec (a % b) b, Nat.gcd_comm]
        rw [e1, e2]
        apply eu_gcd f
        have h3 : b % (a % b) < a % b := Nat.mod_lt _ (by omega)
        have h4 : b % (a % b) + a % b ≤ b := by
          have h5 := Nat.div_add_mod b (a % b)
          have h6 : 1 ≤ b / (a % b) := (Nat.one_le_div_iff (by omega)).mpr (by omega)
          have h7 := Nat.mul_le_mul_left (a % b) h6
          omega
        rw [Nat.pow_succ] at h
        omega
def abZ (v : Int32) : Int32 := if 0 ≤ v then v else 0 - v
def frR (v : Int32) (a b : Nat) (up : Bool) : Int32 := if up = true then v / nI (Nat.gcd a b) else nI (b / Nat.gcd a b)

set_option maxHeartbeats 4000000 in
theorem k_X5_factorial (l : Launch) (F : FF) (L : Int64) (wd : WD) (k : Nat) (hk : k < 6) : CI l yX5_factorial cX5_factorial 1 (some .int) (rmx 0 0) wd [.int (nI k)] F L (nI (fct k)) F L := by
  refine mkI [some (.int (nI k))] 0 (by decide) rfl (Nat.le_of_ble_eq_true rfl) ?_
  intro x d hx hC
  subst hx
  have hC : Cx x cX5_factorial 1 RX5 (some .int) (rmx 0 0) wd d := hC
  refine WP.iln (pc := 0) hC dX5_factorial_0 rfl ?_
  refine WP.iflt (pc := 1) hC dX5_factorial_1 20 (by decide) (fun h1 => absurd h1 (nI_pos (by omega))) (fun h1 => ?_)
  refine WP.iln (pc := 4) hC dX5_factorial_4 rfl ?_
  refine WP.lenF (pc := 5) hC dX5_factorial_5 fs_X5_270 dX5_factorial_8 ?_
  refine WP.icge (pc := 9) hC dX5_factorial_9 20 (by decide) (fun h9 => absurd h9 (nI_ge (b := 6) (a := k) hk (by decide))) (fun h9 => ?_)
  refine WP.ldF (pc := 12) hC dX5_factorial_12 k rfl hk rfl fs_X5_270 dX5_factorial_15 dX5_factorial_16 ?_
  refine WP.goto (pc := 17) hC dX5_factorial_17 21 (by decide) ?_
  refine WP.iret (pc := 21) hC rfl dX5_factorial_21 ?_ ?_ ?_
  all_goals (first | rfl | exact fct_eq k hk)
set_option maxHeartbeats 4000000 in
theorem k_X5_commonDivisor (l : Launch) (F : FF) (L : Int64) (wd : WD) (a0 b0 : Nat) (ha0 : a0 < 2 ^ 31) (hb0 : b0 < 2 ^ 31) : CI l yX5_commonDivisor cX5_commonDivisor 6 (some .int) (rmx 0 0) wd [.int (nI a0), .int (nI b0)] F L (nI (Nat.gcd a0 b0)) F L := by
  refine mkI [some (.int (nI a0)), some (.int (nI b0)), none, none, none, none] 4 (by decide) rfl (Nat.le_of_ble_eq_true rfl) ?_
  intro x d hx hC
  subst hx
  have hC : Cx x cX5_commonDivisor 6 RX5 (some .int) (rmx 0 0) wd d := hC
  rw [← eu_gcd 32 a0 b0 (by omega)]
  generalize hV : eu (2 * 32) a0 b0 = V
  have loop : ∀ k, k ≤ 64 → ∀ (a b : Nat) (a5 : Option Value), a < 2 ^ 31 → b < 2 ^ 31 → eu (64 - k) a b = V → WP x 6 wd d (QI x wd d (nI V) F L) 7 [some (.int (nI a0)), some (.int (nI b0)), some (.int (nI a)), some (.int (nI b)), some (.int (nI k)), a5] [] F L := by
    refine loop_c (n := 64) (P := fun k => ∀ (a b : Nat) (a5 : Option Value), a < 2 ^ 31 → b < 2 ^ 31 → eu (64 - k) a b = V → WP x 6 wd d (QI x wd d (nI V) F L) 7 [some (.int (nI a0)), some (.int (nI b0)), some (.int (nI a)), some (.int (nI b)), some (.int (nI k)), a5] [] F L) ?_
    intro k hk0 ih a b a5 ha hb hv
    refine WP.il (pc := 7) hC dX5_commonDivisor_7 rfl ?_
    refine WP.bipush (pc := 9) hC dX5_commonDivisor_9 64 (by decide) ?_
    refine WP.icge (pc := 11) hC dX5_commonDivisor_11 34 (by decide) (fun h11 => ?_) (fun h11 => ?_)
    · have hav : a = V := by
        first | (have hb0 : b = 0 := (nI_eq (b := 0) hb (by decide)).mp h15; rw [hb0] at hv; rw [← hv]; cases h9 : 64 - k <;> simp [eu]) | (have : 64 ≤ k := (nI_leI (a := 64) (by decide) (by omega)).mp h11; rw [show 64 - k = 0 by omega] at hv; exact hv)
      refine WP.iln (pc := 34) hC dX5_commonDivisor_34 rfl ?_
      refine WP.iret (pc := 35) hC rfl dX5_commonDivisor_35 ?_ ?_ ?_
      all_goals (first | rfl | (rw [hav]))
    · refine WP.iln (pc := 14) hC dX5_commonDivisor_14 rfl ?_
      refine WP.ifeq (pc := 15) hC dX5_commonDivisor_15 34 (by decide) (fun h15 => ?_) (fun h15 => ?_)
      · have hav : a = V := by
          first | (have hb0 : b = 0 := (nI_eq (b := 0) hb (by decide)).mp h15; rw [hb0] at hv; rw [← hv]; cases h9 : 64 - k <;> simp [eu]) | (have : 64 ≤ k := (nI_leI (a := 64) (by decide) (by omega)).mp h11; rw [show 64 - k = 0 by omega] at hv; exact hv)
        refine WP.iln (pc := 34) hC dX5_commonDivisor_34 rfl ?_
        refine WP.iret (pc := 35) hC rfl dX5_commonDivisor_35 ?_ ?_ ?_
        all_goals (first | rfl | (rw [hav]))
      · have h15n := h15
        have hb0 : ¬ b = 0 := fun z => h15 (by rw [z]; rfl)
        have hk : k < 64 := (nI_ltI (b := 64) (by omega) (by decide)).mp (i_nle.mp h11)
        obtain ⟨f, hf⟩ : ∃ f, 64 - k = f + 1 := ⟨63 - k, by omega⟩
        rw [hf, eu, if_neg hb0] at hv
        refine WP.iln (pc := 18) hC dX5_commonDivisor_18 rfl ?_
        refine WP.iln (pc := 19) hC dX5_commonDivisor_19 rfl ?_
        refine WP.irem (pc := 20) hC dX5_commonDivisor_20 h15n ?_
        rw [pk_rem ha (by omega) hb]
        refine WP.is (lv' := [_, _, _, _, _, _]) (pc := 21) hC dX5_commonDivisor_21 rfl (by decide) rfl ?_
        refine WP.iln (pc := 23) hC dX5_commonDivisor_23 rfl ?_
        refine WP.isn (lv' := [_, _, _, _, _, _]) (pc := 24) hC dX5_commonDivisor_24 rfl (by decide) rfl ?_
        refine WP.il (pc := 25) hC dX5_commonDivisor_25 rfl ?_
        refine WP.isn (lv' := [_, _, _, _, _, _]) (pc := 27) hC dX5_commonDivisor_27 rfl (by decide) rfl ?_
        refine WP.iinc (lv' := [_, _, _, _, _, _]) (pc := 28) hC dX5_commonDivisor_28 rfl (_ + 1) rfl rfl (by decide) rfl ?_
        refine WP.goto (pc := 31) hC dX5_commonDivisor_31 7 (by decide) ?_
        rw [nIp1]
        exact ih (by omega) _ _ _ hb (Nat.lt_trans (Nat.mod_lt _ (by omega)) hb) (by rw [show 64 - (k + 1) = f by omega]; exact hv)
  refine WP.iln (pc := 0) hC dX5_commonDivisor_0 rfl ?_
  refine WP.isn (lv' := [_, _, _, _, _, _]) (pc := 1) hC dX5_commonDivisor_1 rfl (by decide) rfl ?_
  refine WP.iln (pc := 2) hC dX5_commonDivisor_2 rfl ?_
  refine WP.isn (lv' := [_, _, _, _, _, _]) (pc := 3) hC dX5_commonDivisor_3 rfl (by decide) rfl ?_
  refine WP.iconst (pc := 4) hC dX5_commonDivisor_4 0 (by decide) ?_
  refine WP.is (lv' := [_, _, _, _, _, _]) (pc := 5) hC dX5_commonDivisor_5 rfl (by decide) rfl ?_
  exact loop 0 (by decide) a0 b0 _ ha0 hb0 hV
set_option maxHeartbeats 4000000 in
theorem k_X5_fraction (l : Launch) (F : FF) (L : Int64) (wd : WD) (v : Int32) (a b : Nat) (up : Bool) (hv : abZ v = nI a) (ha : a < 2 ^ 31) (hb : b < 2 ^ 31) (hb0 : 0 < b) : CI l yX5_fraction cX5_fraction 4 (some .int) (rmx 1 25) wd [.int v, .int (nI b), .int (b2 up)] F L (frR v a b up) F L := by
  refine mkI [some (.int v), some (.int (nI b)), some (.int (b2 up)), none] 1 (by decide) rfl (Nat.le_of_ble_eq_true rfl) ?_
  intro x d hx hC
  subst hx
  have hC : Cx x cX5_fraction 4 RX5 (some .int) (rmx 1 25) wd d := hC
  have hg0 : 0 < Nat.gcd a b := Nat.gcd_pos_of_pos_right a hb0
  have hg1 : Nat.gcd a b ≤ b := Nat.gcd_le_right a hb0
  refine WP.iln (pc := 0) hC dX5_fraction_0 rfl ?_
  refine WP.mabs (pc := 1) hC dX5_fraction_1 ml_X5_273 ⟨by decide, Nat.le_of_ble_eq_true rfl⟩ ?_
  rw [show (if 0 ≤ v then v else 0 - v) = nI a from hv]
  refine WP.iln (pc := 4) hC dX5_fraction_4 rfl ?_
  refine WP.callSI (pc := 5) hC dX5_fraction_5 (k_X5_commonDivisor _ F L wd a b ha hb) ml_X5_278 rfl rfl (Nat.le_of_ble_eq_true rfl) ⟨by decide, by decide⟩ ?_
  refine WP.isn (lv' := [_, _, _, _]) (pc := 8) hC dX5_fraction_8 rfl (by decide) rfl ?_
  refine WP.iln (pc := 9) hC dX5_fraction_9 rfl ?_
  refine WP.ifne (pc := 10) hC dX5_fraction_10 15 (by decide) (fun h10 => ?_) (fun h10 => absurd h10 (nI_ne0 hg0 (by omega)))
  refine WP.iln (pc := 15) hC dX5_fraction_15 rfl ?_
  refine WP.ifeq (pc := 16) hC dX5_fraction_16 25 (by decide) (fun h16 => ?_) (fun h16 => ?_)
  · rw [b2_0] at h16
    refine WP.iln (pc := 25) hC dX5_fraction_25 rfl ?_
    refine WP.iln (pc := 26) hC dX5_fraction_26 rfl ?_
    refine WP.idiv (pc := 27) hC dX5_fraction_27 h10 ?_
    refine WP.iret (pc := 28) hC rfl dX5_fraction_28 ?_ ?_ ?_
    all_goals (first | rfl | (subst h16; rfl) | (subst h16; exact pk_div hb hg0 (by omega)))
  · rw [b2_n0] at h16
    refine WP.iln (pc := 19) hC dX5_fraction_19 rfl ?_
    refine WP.iln (pc := 20) hC dX5_fraction_20 rfl ?_
    refine WP.idiv (pc := 21) hC dX5_fraction_21 h10 ?_
    refine WP.goto (pc := 22) hC dX5_fraction_22 28 (by decide) ?_
    refine WP.iret (pc := 28) hC rfl dX5_fraction_28 ?_ ?_ ?_
    all_goals (first | rfl | (subst h16; rfl) | (subst h16; exact pk_div hb hg0 (by omega)))
set_option maxHeartbeats 4000000 in
theorem k_X5_rightByMost (l : Launch) (F : FF) (L : Int64) (nr ns q : Nat) (g : Nat → Nat) (hN : NR F nr ns) (hq : q < 32) (hg : ∀ s, s < ns → F 17 s = nI (g s)) : CI l yX5_rightByMost cX5_rightByMost 4 (some .int) (rmx 1 20) wN [.ref 0, .int (nI q)] F L (nI (rbN g ns q)) F L := by
  refine mkI [some (.ref 0), some (.int (nI q)), none, none] 2 (by decide) rfl (Nat.le_of_ble_eq_true rfl) ?_
  intro x d hx hC
  subst hx
  have hC : Cx x cX5_rightByMost 4 RX5 (some .int) (rmx 1 20) wN d := hC
  have hs4 := hN.2.2.2
  have loop : ∀ s, s ≤ ns → WP x 4 wN d (QI x wN d (nI (cntN (fun s => decide (pcN q < 2 * pcN (g s &&& q))) ns)) F L) 4 [some (.ref 0), some (.int (nI q)), some (.int (nI (cntN (fun s => decide (pcN q < 2 * pcN (g s &&& q))) s))), some (.int (nI s))] [] F L := by
    refine loop_c (n := ns) (P := fun s => WP x 4 wN d (QI x wN d (nI (cntN (fun s => decide (pcN q < 2 * pcN (g s &&& q))) ns)) F L) 4 [some (.ref 0), some (.int (nI q)), some (.int (nI (cntN (fun s => decide (pcN q < 2 * pcN (g s &&& q))) s))), some (.int (nI s))] [] F L) ?_
    intro s hs0 ih
    refine WP.iln (pc := 4) hC dX5_rightByMost_4 rfl ?_
    refine WP.aln (pc := 5) hC dX5_rightByMost_5 rfl ?_
    refine WP.gf (pc := 6) hC dX5_rightByMost_6 fl_X5_19 (by decide) rfl rfl ?_
    refine WP.gf (pc := 9) hC dX5_rightByMost_9 fl_X5_85 (by decide) rfl rfl ?_
    refine WP.icge (pc := 12) hC dX5_rightByMost_12 44 (by decide) (fun h12 => ?_) (fun h12 => ?_)
    · have hs9 : s = ns := by
        have h12 := h12
        rw [hN.2.1] at h12
        have := (nI_leI (by omega) (by omega)).mp h12
        omega
      subst hs9
      refine WP.iln (pc := 44) hC dX5_rightByMost_44 rfl ?_
      refine WP.iret (pc := 45) hC rfl dX5_rightByMost_45 ?_ ?_ ?_
      all_goals (rfl)
    · have hs : s < ns := by
        have h12 := h12
        rw [hN.2.1] at h12
        exact (nI_ltI (by omega) (by omega)).mp (i_nle.mp h12)
      have hv := ih hs
      have hc := cntN_le (fun s => decide (pcN q < 2 * pcN (g s &&& q))) s
      refine WP.iconst (pc := 15) hC dX5_rightByMost_15 2 (by decide) ?_
      refine WP.aln (pc := 16) hC dX5_rightByMost_16 rfl ?_
      refine WP.gf (pc := 17) hC dX5_rightByMost_17 fl_X5_55 (by decide) rfl rfl ?_
      refine WP.iln (pc := 20) hC dX5_rightByMost_20 rfl ?_
      refine WP.ial (pc := 21) hC dX5_rightByMost_21 s rfl (by omega) (by decide) rfl (by decide) ?_
      rw [hg s hs]
      refine WP.iln (pc := 22) hC dX5_rightByMost_22 rfl ?_
      refine WP.iand (pc := 23) hC dX5_rightByMost_23 ?_
      rw [nI_and]
      refine WP.callSI (pc := 24) hC dX5_rightByMost_24 (k_J6_bitCount_0f7a4 _ F L wN _) ml_X5_176 rfl rfl (Nat.le_of_ble_eq_true rfl) ⟨by decide, by decide⟩ ?_
      rw [bc5x _ (and_lt32 hq)]
      refine WP.imul (pc := 27) hC dX5_rightByMost_27 ?_
      rw [show (2 : Int32) * nI (pcN (g s &&& q)) = nI (2 * pcN (g s &&& q)) from pk_mul 2 _]
      refine WP.iln (pc := 28) hC dX5_rightByMost_28 rfl ?_
      refine WP.callSI (pc := 29) hC dX5_rightByMost_29 (k_J6_bitCount_0f7a4 _ F L wN _) ml_X5_176 rfl rfl (Nat.le_of_ble_eq_true rfl) ⟨by decide, by decide⟩ ?_
      rw [bc5x _ hq]
      have hp1 := pcN_le q
      have hp2 := pcN_le (g s &&& q)
      refine WP.icle (pc := 32) hC dX5_rightByMost_32 38 (by decide) (fun h32 => ?_) (fun h32 => ?_)
      · refine WP.iinc (lv' := [_, _, _, _]) (pc := 38) hC dX5_rightByMost_38 rfl (_ + 1) rfl rfl (by decide) rfl ?_
        refine WP.goto (pc := 41) hC dX5_rightByMost_41 4 (by decide) ?_
        first | (rw [nIp1, nIp1]; rw [cntN, if_pos (by simp [ho])] at hv; exact hv) | (rw [nIp1]; rw [cntN, if_neg (by have := (nI_leI (by omega) (by omega)).mp h32; simp; omega)] at hv; exact hv)
      · have ho : pcN q < 2 * pcN (g s &&& q) := (nI_ltI (by omega) (by omega)).mp (i_nle.mp h32)
        refine WP.iinc (lv' := [_, _, _, _]) (pc := 35) hC dX5_rightByMost_35 rfl (_ + 1) rfl rfl (by decide) rfl ?_
        refine WP.iinc (lv' := [_, _, _, _]) (pc := 38) hC dX5_rightByMost_38 rfl (_ + 1) rfl rfl (by decide) rfl ?_
        refine WP.goto (pc := 41) hC dX5_rightByMost_41 4 (by decide) ?_
        first | (rw [nIp1, nIp1]; rw [cntN, if_pos (by simp [ho])] at hv; exact hv) | (rw [nIp1]; rw [cntN, if_neg (by have := (nI_leI (by omega) (by omega)).mp h32; simp; omega)] at hv; exact hv)
  refine WP.iconst (pc := 0) hC dX5_rightByMost_0 0 (by decide) ?_
  refine WP.isn (lv' := [_, _, _, _]) (pc := 1) hC dX5_rightByMost_1 rfl (by decide) rfl ?_
  refine WP.iconst (pc := 2) hC dX5_rightByMost_2 0 (by decide) ?_
  refine WP.isn (lv' := [_, _, _, _]) (pc := 3) hC dX5_rightByMost_3 rfl (by decide) rfl ?_
  exact loop 0 (Nat.zero_le _)
set_option maxHeartbeats 4000000 in
theorem k_X5_ordersBehind (l : Launch) (F : FF) (L : Int64) (nr ns q : Nat) (hN : NR F nr ns) (hr : 1 ≤ nr) (hq : q < 32) (hp : pcN q ≤ nr - 1) : CI l yX5_ordersBehind cX5_ordersBehind 3 (some .int) (rmx 1 20) wN [.ref 0, .int (nI q)] F L (nI (ordN nr q)) F L := by
  refine mkI [some (.ref 0), some (.int (nI q)), none] 1 (by decide) rfl (Nat.le_of_ble_eq_true rfl) ?_
  intro x d hx hC
  subst hx
  have hC : Cx x cX5_ordersBehind 3 RX5 (some .int) (rmx 1 20) wN d := hC
  have hr5 := hN.2.2.1
  refine WP.iln (pc := 0) hC dX5_ordersBehind_0 rfl ?_
  refine WP.callSI (pc := 1) hC dX5_ordersBehind_1 (k_J6_bitCount_0f7a4 _ F L wN _) ml_X5_176 rfl rfl (Nat.le_of_ble_eq_true rfl) ⟨by decide, by decide⟩ ?_
  rw [bc5x q hq]
  refine WP.isn (lv' := [_, _, _]) (pc := 4) hC dX5_ordersBehind_4 rfl (by decide) rfl ?_
  refine WP.iln (pc := 5) hC dX5_ordersBehind_5 rfl ?_
  refine WP.callSI (pc := 6) hC dX5_ordersBehind_6 (k_X5_factorial _ F L wN (pcN q) (by omega)) ml_X5_219 rfl rfl (Nat.le_of_ble_eq_true rfl) ⟨by decide, by decide⟩ ?_
  refine WP.aln (pc := 9) hC dX5_ordersBehind_9 rfl ?_
  refine WP.gf (pc := 10) hC dX5_ordersBehind_10 fl_X5_19 (by decide) rfl rfl ?_
  refine WP.gf (pc := 13) hC dX5_ordersBehind_13 fl_X5_82 (by decide) rfl rfl ?_
  refine WP.iconst (pc := 16) hC dX5_ordersBehind_16 1 (by decide) ?_
  refine WP.isub (pc := 17) hC dX5_ordersBehind_17 ?_
  refine WP.iln (pc := 18) hC dX5_ordersBehind_18 rfl ?_
  refine WP.isub (pc := 19) hC dX5_ordersBehind_19 ?_
  rw [show F 3 4 - 1 - nI (pcN q) = nI (nr - 1 - pcN q) by rw [hN.1, show nI nr - 1 = nI (nr - 1) from pk_sub (b := 1) hr, pk_sub hp]]
  refine WP.callSI (pc := 20) hC dX5_ordersBehind_20 (k_X5_factorial _ F L wN (nr - 1 - pcN q) (by omega)) ml_X5_219 rfl rfl (Nat.le_of_ble_eq_true rfl) ⟨by decide, by decide⟩ ?_
  refine WP.imul (pc := 23) hC dX5_ordersBehind_23 ?_
  refine WP.iret (pc := 24) hC rfl dX5_ordersBehind_24 ?_ ?_ ?_
  all_goals (first | rfl | exact pk_mul _ _)
def shV (F : FF) (nr ns i : Nat) : Int32 := shG i (fun q => nI (ordN nr q)) (fun q => nI (rbN (rightS F nr) ns q)) (2 ^ nr)
def shF (F : FF) (nr ns : Nat) : FF := setW F (fun s => nI (rightS F nr s)) ns
def shR (F : FF) (nr ns a : Nat) (r : Int32) (up : Bool) : Int32 := if hasB r nr = true then frR (shV F nr ns (ix r)) a (fct nr) up else -1
def shFF (F : FF) (nr ns : Nat) (r : Int32) : FF := if hasB r nr = true then shF F nr ns else F
theorem fct_b : ∀ n, n ≤ 5 → 0 < fct n ∧ fct n ≤ 120 := by decide
set_option maxHeartbeats 4000000 in
theorem k_X5_share (l : Launch) (F : FF) (L : Int64) (nr ns a : Nat) (r : Int32) (up : Bool) (hN : NR F nr ns) (hZ : BZ F) (ha : abZ (shV F nr ns (ix r)) = nI a) (ha2 : a < 2 ^ 31) : CI l yX5_share cX5_share 6 (some .int) (rmx 6 139) wN [.ref 0, .int r, .int (b2 up)] F L (shR F nr ns a r up) (shFF F nr ns r) L := by
  refine mkI [some (.ref 0), some (.int r), some (.int (b2 up)), none, none, none] 3 (by decide) rfl (Nat.le_of_ble_eq_true rfl) ?_
  intro x d hx hC
  subst hx
  have hC : Cx x cX5_share 6 RX5 (some .int) (rmx 6 139) wN d := hC
  refine WP.aln (pc := 0) hC dX5_share_0 rfl ?_
  refine WP.gf (pc := 1) hC dX5_share_1 fl_X5_19 (by decide) rfl rfl ?_
  refine WP.iln (pc := 4) hC dX5_share_4 rfl ?_
  refine WP.callVI (pc := 5) hC dX5_share_5 (k_X3_hasReader _ F L nr ns r hN) ml_X5_88 rfl rfl (by decide) rfl (Nat.le_of_ble_eq_true rfl) ⟨by decide, by decide⟩ ?_
  refine WP.ifne (pc := 8) hC dX5_share_8 13 (by decide) (fun h8 => ?_) (fun h8 => ?_)
  · rw [b2_n0] at h8
    obtain ⟨i, hi, rfl⟩ := hasB_of hN.2.2.1 h8
    have hs4 := hN.2.2.2
    have hr5 := hN.2.2.1
    have h32 := pow5 nr hr5
    have hfc := fct_b nr hr5
    have hi32 : 2 ^ i < 32 := Nat.lt_of_lt_of_le (Nat.pow_lt_pow_right (by decide) hi) h32.1
    have ei : ix (nI i) = i := ix_nI (by omega)
    rw [show shR F nr ns a (nI i) up = frR (shV F nr ns i) a (fct nr) up by unfold shR; rw [if_pos h8, ei], show shFF F nr ns (nI i) = shF F nr ns by unfold shFF; rw [if_pos h8]]
    rw [ei] at ha
    have loop2 : ∀ q, q ≤ 2 ^ nr → WP x 6 wN d (QI x wN d (frR (shV F nr ns i) a (fct nr) up) (shF F nr ns) L) 53 [some (.ref 0), some (.int (nI i)), some (.int (b2 up)), some (.int (nI (2 ^ i))), some (.int (shG i (fun q => nI (ordN nr q)) (fun q => nI (rbN (rightS F nr) ns q)) q)), some (.int (nI q))] [] (shF F nr ns) L := by
      refine loop_c (n := 2 ^ nr) (P := fun q => WP x 6 wN d (QI x wN d (frR (shV F nr ns i) a (fct nr) up) (shF F nr ns) L) 53 [some (.ref 0), some (.int (nI i)), some (.int (b2 up)), some (.int (nI (2 ^ i))), some (.int (shG i (fun q => nI (ordN nr q)) (fun q => nI (rbN (rightS F nr) ns q)) q)), some (.int (nI q))] [] (shF F nr ns) L) ?_
      intro q hq0 ih
      refine WP.il (pc := 53) hC dX5_share_53 rfl ?_
      refine WP.aln (pc := 55) hC dX5_share_55 rfl ?_
      refine WP.gf (pc := 56) hC dX5_share_56 fl_X5_19 (by decide) rfl rfl ?_
      refine WP.callVI (pc := 59) hC dX5_share_59 (k_X3_allReaders _ (shF F nr ns) L nr ns hN.w) ml_X5_170 rfl rfl (by decide) rfl (Nat.le_of_ble_eq_true rfl) ⟨by decide, by decide⟩ ?_
      refine WP.icgt (pc := 62) hC dX5_share_62 105 (by decide) (fun h62 => ?_) (fun h62 => ?_)
      · have hq9 : q = 2 ^ nr := by
          have := (nI_ltI (by omega) (by omega)).mp h62
          omega
        subst hq9
        refine WP.il (pc := 105) hC dX5_share_105 rfl ?_
        refine WP.aln (pc := 107) hC dX5_share_107 rfl ?_
        refine WP.gf (pc := 108) hC dX5_share_108 fl_X5_19 (by decide) rfl rfl ?_
        refine WP.gf (pc := 111) hC dX5_share_111 fl_X5_82 (by decide) rfl rfl ?_
        rw [show shF F nr ns 3 4 = nI nr from hN.w.1]
        refine WP.callSI (pc := 114) hC dX5_share_114 (k_X5_factorial _ (shF F nr ns) L wN nr (by omega)) ml_X5_219 rfl rfl (Nat.le_of_ble_eq_true rfl) ⟨by decide, by decide⟩ ?_
        refine WP.iln (pc := 117) hC dX5_share_117 rfl ?_
        refine WP.callSI (pc := 118) hC dX5_share_118 (k_X5_fraction _ (shF F nr ns) L wN _ a (fct nr) up ha ha2 (by omega) hfc.1) ml_X5_222 rfl rfl (Nat.le_of_ble_eq_true rfl) ⟨by decide, by decide⟩ ?_
        refine WP.iret (pc := 121) hC rfl dX5_share_121 ?_ ?_ ?_
        all_goals (rfl)
      · have hq : q < 2 ^ nr := by
          have := (nI_leI (by omega) (by omega)).mp (i_nlt.mp h62)
          omega
        have hv := ih hq
        refine WP.il (pc := 65) hC dX5_share_65 rfl ?_
        refine WP.iln (pc := 67) hC dX5_share_67 rfl ?_
        refine WP.iand (pc := 68) hC dX5_share_68 ?_
        rw [nI_and]
        refine WP.ifne (pc := 69) hC dX5_share_69 99 (by decide) (fun h69 => ?_) (fun h69 => ?_)
        · refine WP.iinc (lv' := [_, _, _, _, _, _]) (pc := 99) hC dX5_share_99 rfl (_ + 1) rfl rfl (by decide) rfl ?_
          refine WP.goto (pc := 102) hC dX5_share_102 53 (by decide) ?_
          rw [nIp1]
          rw [shG] at hv
          first | (rw [if_pos h69] at hv; exact hv) | (rw [if_neg (fun z => h69 (by rw [z]; rfl))] at hv; exact hv)
        · replace h69 : q &&& 2 ^ i = 0 := (nI_eq (b := 0) (Nat.lt_of_le_of_lt Nat.and_le_left (by omega)) (by decide)).mp h69
          refine WP.il (pc := 72) hC dX5_share_72 rfl ?_
          refine WP.aln (pc := 74) hC dX5_share_74 rfl ?_
          refine WP.il (pc := 75) hC dX5_share_75 rfl ?_
          refine WP.callVI (pc := 77) hC dX5_share_77 (k_X5_ordersBehind _ (shF F nr ns) L nr ns q hN.w (by omega) (by omega) (pc_free nr hr5 i hi q hq h69)) ml_X5_213 rfl rfl (by decide) rfl (Nat.le_of_ble_eq_true rfl) ⟨by decide, by decide⟩ ?_
          refine WP.aln (pc := 80) hC dX5_share_80 rfl ?_
          refine WP.il (pc := 81) hC dX5_share_81 rfl ?_
          refine WP.iln (pc := 83) hC dX5_share_83 rfl ?_
          refine WP.ior (pc := 84) hC dX5_share_84 ?_
          rw [nI_or]
          refine WP.callVI (pc := 85) hC dX5_share_85 (k_X5_rightByMost _ (shF F nr ns) L nr ns (q ||| 2 ^ i) (rightS F nr) hN.w (or_lt32 (by omega) hi32) (fun s hs => setW_at hs)) ml_X5_216 rfl rfl (by decide) rfl (Nat.le_of_ble_eq_true rfl) ⟨by decide, by decide⟩ ?_
          refine WP.aln (pc := 88) hC dX5_share_88 rfl ?_
          refine WP.il (pc := 89) hC dX5_share_89 rfl ?_
          refine WP.callVI (pc := 91) hC dX5_share_91 (k_X5_rightByMost _ (shF F nr ns) L nr ns q (rightS F nr) hN.w (by omega) (fun s hs => setW_at hs)) ml_X5_216 rfl rfl (by decide) rfl (Nat.le_of_ble_eq_true rfl) ⟨by decide, by decide⟩ ?_
          refine WP.isub (pc := 94) hC dX5_share_94 ?_
          refine WP.imul (pc := 95) hC dX5_share_95 ?_
          refine WP.iadd (pc := 96) hC dX5_share_96 ?_
          refine WP.is (lv' := [_, _, _, _, _, _]) (pc := 97) hC dX5_share_97 rfl (by decide) rfl ?_
          refine WP.iinc (lv' := [_, _, _, _, _, _]) (pc := 99) hC dX5_share_99 rfl (_ + 1) rfl rfl (by decide) rfl ?_
          refine WP.goto (pc := 102) hC dX5_share_102 53 (by decide) ?_
          rw [nIp1]
          rw [shG] at hv
          first | (rw [if_pos h69] at hv; exact hv) | (rw [if_neg (fun z => h69 (by rw [z]; rfl))] at hv; exact hv)
    have loop : ∀ s, s ≤ ns → WP x 6 wN d (QI x wN d (frR (shV F nr ns i) a (fct nr) up) (shF F nr ns) L) 15 [some (.ref 0), some (.int (nI i)), some (.int (b2 up)), some (.int (nI s)), none, none] [] (setW F (fun s => nI (rightS F nr s)) s) L := by
      refine loop_c (n := ns) (P := fun s => WP x 6 wN d (QI x wN d (frR (shV F nr ns i) a (fct nr) up) (shF F nr ns) L) 15 [some (.ref 0), some (.int (nI i)), some (.int (b2 up)), some (.int (nI s)), none, none] [] (setW F (fun s => nI (rightS F nr s)) s) L) ?_
      intro s hs0 ih
      refine WP.iln (pc := 15) hC dX5_share_15 rfl ?_
      refine WP.aln (pc := 16) hC dX5_share_16 rfl ?_
      refine WP.gf (pc := 17) hC dX5_share_17 fl_X5_19 (by decide) rfl rfl ?_
      refine WP.gf (pc := 20) hC dX5_share_20 fl_X5_85 (by decide) rfl rfl ?_
      refine WP.icge (pc := 23) hC dX5_share_23 43 (by decide) (fun h23 => ?_) (fun h23 => ?_)
      · have hs9 : s = ns := by
          have h23 := h23
          rw [show setW F (fun s => nI (rightS F nr s)) s 3 5 = nI ns from hN.w.2.1] at h23
          have := (nI_leI (by omega) (by omega)).mp h23
          omega
        subst hs9
        refine WP.iconst (pc := 43) hC dX5_share_43 1 (by decide) ?_
        refine WP.iln (pc := 44) hC dX5_share_44 rfl ?_
        refine WP.ishl (pc := 45) hC dX5_share_45 ?_
        rw [sh5 i (by omega)]
        refine WP.isn (lv' := [_, _, _, _, _, _]) (pc := 46) hC dX5_share_46 rfl (by decide) rfl ?_
        refine WP.iconst (pc := 47) hC dX5_share_47 0 (by decide) ?_
        refine WP.is (lv' := [_, _, _, _, _, _]) (pc := 48) hC dX5_share_48 rfl (by decide) rfl ?_
        refine WP.iconst (pc := 50) hC dX5_share_50 0 (by decide) ?_
        refine WP.is (lv' := [_, _, _, _, _, _]) (pc := 51) hC dX5_share_51 rfl (by decide) rfl ?_
        exact loop2 0 (Nat.zero_le _)
      · have hs : s < ns := by
          have h23 := h23
          rw [show setW F (fun s => nI (rightS F nr s)) s 3 5 = nI ns from hN.w.2.1] at h23
          exact (nI_ltI (by omega) (by omega)).mp (i_nle.mp h23)
        have hv := ih hs
        refine WP.aln (pc := 26) hC dX5_share_26 rfl ?_
        refine WP.gf (pc := 27) hC dX5_share_27 fl_X5_55 (by decide) rfl rfl ?_
        refine WP.iln (pc := 30) hC dX5_share_30 rfl ?_
        refine WP.aln (pc := 31) hC dX5_share_31 rfl ?_
        refine WP.iln (pc := 32) hC dX5_share_32 rfl ?_
        refine WP.callVI (pc := 33) hC dX5_share_33 (k_X5_sayingRight _ (setW F _ s) L nr ns s hN.w hZ.w hs) ml_X5_210 rfl rfl (by decide) rfl (Nat.le_of_ble_eq_true rfl) ⟨by decide, by decide⟩ ?_
        rw [rightS_w]
        refine WP.ias (pc := 36) hC dX5_share_36 s rfl (by omega) (by decide) rfl rfl (by decide) ?_
        change WP _ _ _ _ _ _ _ _ (setW F (fun s => nI (rightS F nr s)) (s + 1)) _
        refine WP.iinc (lv' := [_, _, _, _, _, _]) (pc := 37) hC dX5_share_37 rfl (_ + 1) rfl rfl (by decide) rfl ?_
        refine WP.goto (pc := 40) hC dX5_share_40 15 (by decide) ?_
        rw [nIp1]
        exact hv
    refine WP.iconst (pc := 13) hC dX5_share_13 0 (by decide) ?_
    refine WP.isn (lv' := [_, _, _, _, _, _]) (pc := 14) hC dX5_share_14 rfl (by decide) rfl ?_
    exact loop 0 (Nat.zero_le _)
  · rw [b2_0] at h8
    refine WP.iconst (pc := 11) hC dX5_share_11 (-1) (by decide) ?_
    refine WP.iret (pc := 12) hC rfl dX5_share_12 ?_ ?_ ?_
    all_goals (first | rfl | (unfold shR; rw [if_neg (by rw [h8]; decide)]) | (unfold shFF; rw [if_neg (by rw [h8]; decide)]))
