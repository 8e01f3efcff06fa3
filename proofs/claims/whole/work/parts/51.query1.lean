/-! ===== questions answered alike ===== -/
theorem allN_iff {f : Nat → Bool} : ∀ {n : Nat}, allN f n = true ↔ ∀ k, k < n → f k = true
  | 0 => ⟨fun _ k h => by omega, fun _ => rfl⟩
  | n + 1 => by
    rw [allN, Bool.and_eq_true, allN_iff]
    constructor
    · rintro ⟨h1, h2⟩ k hk
      by_cases e : k = n
      · rw [e]; exact h2
      · exact h1 k (by omega)
    · intro h
      exact ⟨fun k hk => h k (by omega), h n (by omega)⟩
theorem tb_bits (f : Nat → Bool) : ∀ n i, (bits f n).testBit i = (decide (i < n) && f i)
  | 0, i => by simp [bits]
  | n + 1, i => by
    have hl := bits_lt f n
    rw [bits]
    by_cases hf : f n = true
    · rw [if_pos hf, Nat.add_comm]
      rcases Nat.lt_trichotomy i n with h | h | h
      · rw [Nat.testBit_two_pow_add_gt h, tb_bits f n i]
        simp [h, show i < n + 1 by omega]
      · subst h
        rw [Nat.testBit_two_pow_add_eq, Nat.testBit_lt_two_pow hl]
        simp [hf]
      · rw [Nat.testBit_lt_two_pow (Nat.lt_of_lt_of_le (show 2 ^ n + bits f n < 2 ^ (n + 1) by rw [Nat.pow_succ]; omega) (Nat.pow_le_pow_right (by decide) h))]
        simp [show ¬ i < n + 1 by omega]
    · rw [if_neg hf, Nat.add_zero, tb_bits f n i]
      by_cases h : i < n
      · simp [h, show i < n + 1 by omega]
      · by_cases e : i = n
        · subst e
          simp [hf]
        · simp [h, show ¬ i < n + 1 by omega]
theorem bits_eq_iff {f : Nat → Bool} {n q : Nat} (hq : q < 2 ^ n) : bits f n = q ↔ ∀ k, k < n → f k = q.testBit k := by
  constructor
  · intro e k hk
    rw [← e, tb_bits]
    simp [hk]
  · intro h
    apply Nat.eq_of_testBit_eq
    intro i
    rw [tb_bits]
    by_cases hi : i < n
    · simp [hi, h i hi]
    · rw [Nat.testBit_lt_two_pow (Nat.lt_of_lt_of_le hq (Nat.pow_le_pow_right (by decide) (by omega)))]
      simp [hi]
theorem andn : ∀ a, a < 32 → ∀ b, b < 32 → nI a &&& (nI b ^^^ (-1)) = nI (a &&& (31 - b)) := by decide +kernel
theorem tb31 : ∀ b, b < 32 → ∀ i, i < 5 → (31 - b).testBit i = !(b.testBit i) := by decide +kernel
theorem andn_bits {f g : Nat → Bool} {n : Nat} (hn : n ≤ 5) : nI (bits f n) &&& (nI (bits g n) ^^^ (-1)) = nI (bits (fun i => f i && !(g i)) n) := by
  have hp := (pow5 n hn).1
  have hf := bits_lt f n
  have hg := bits_lt g n
  rw [andn _ (by omega) _ (by omega)]
  congr 1
  symm
  rw [bits_eq_iff (Nat.lt_of_le_of_lt Nat.and_le_left hf)]
  intro k hk
  rw [Nat.testBit_and, tb31 _ (by omega) k (by omega), tb_bits, tb_bits]
  simp [hk]
section SIM
variable {F G : FF} {n nr ns h nx sz : Nat}
theorem Sim.reader (S : Sim F G n nr ns h nx sz) (r w : Int32) : rdR F nr r w = rdMR G nr r w := by
  obtain ⟨hI, hR, -⟩ := S
  obtain ⟨-, ⟨-, -, e4, e5, e6, e7⟩, ⟨-, -, b2, b3, b4⟩, -⟩ := hR
  unfold rdR rdMR
  by_cases hr : hasB r nr = true
  · rw [if_pos hr, if_pos hr]
    obtain ⟨i, hi, rfl⟩ := hasB_of hI.2.1.2.2.1 hr
    have h5 := hI.2.1.2.2.1
    rw [ix_nI (by omega), e4, e5, e6, b2 i (by omega)]
  · rw [if_neg hr, if_neg hr]
theorem Sim.bright (S : Sim F G n nr ns h nx sz) (r s : Int32) : brR F nr ns r s = brMR G nr ns r s := by
  unfold brR brMR
  by_cases hc : chk r nr s ns = true
  · rw [if_pos hc, if_pos hc]
    obtain ⟨i, j, hi, hj, rfl, rfl⟩ := chk_of S.1.2.1.2.2.1 S.1.2.1.2.2.2 hc
    have h5 := S.1.2.1.2.2.1
    have h4 := S.1.2.1.2.2.2
    rw [ix_nI (show i < 100 by omega), ix_nI (show j < 100 by omega)]
    exact S.br hi hj
  · rw [if_neg hc, if_neg hc]
theorem Sim.fooled (S : Sim F G n nr ns h nx sz) (s : Int32) : foR F nr ns s = foMR G nr ns s := by
  unfold foR foMR
  by_cases hc : hasB s ns = true
  · rw [if_pos hc, if_pos hc]
    have h4 := S.1.2.1.2.2.2
    obtain ⟨j, hj, rfl⟩ := hasB_of (by omega) hc
    rw [ix_nI (by omega)]
    congr 1
    exact bits_congr (fun i hi => S.sx hi hj)
  · rw [if_neg hc, if_neg hc]
theorem Sim.truly (S : Sim F G n nr ns h nx sz) (s : Int32) : trR F nr ns s = trMR G nr ns s := by
  unfold trR trMR
  by_cases hc : hasB s ns = true
  · rw [if_pos hc, if_pos hc]
    have h4 := S.1.2.1.2.2.2
    obtain ⟨j, hj, rfl⟩ := hasB_of (by omega) hc
    rw [ix_nI (by omega), andn_bits S.1.2.1.2.2.1]
    congr 1
    refine bits_congr (fun i hi => ?_)
    rw [S.sx hi hj, S.sx hi hj]
    rfl
  · rw [if_neg hc, if_neg hc]
theorem le9_nI {k : Nat} (hk : k < 10) : le9 (nI k) := ⟨k, by omega, rfl⟩
theorem Sim.okh (S : Sim F G n nr ns h nx sz) {i j e : Nat} (he : e < 10) : okH F ns i (nI e) j = okHM G ns i (nI e) j := by
  obtain ⟨hI, hR, hg, -⟩ := S
  obtain ⟨-, ⟨-, -, e4, e5, e6, e7⟩, -, -, ⟨-, e11, e12, e13, e14⟩, -⟩ := hR
  unfold okH okHM
  rw [← e11, ← e12, ← e13, ← e14, ← e5, ← e6, ← e7]
  by_cases hs : hasB (F 12 j) ns = true
  · have h4 := hI.2.1.2.2.2
    obtain ⟨q, hq, eq⟩ := hasB_of (by omega) hs
    rw [eq, nI_clamp (by omega), sees_eq (le9_nI he) (le9_lits (hg.2 q hq)) le9_0]
  · rw [Bool.not_eq_true] at hs
    simp [hs]
theorem Sim.ag (S : Sim F G n nr ns h nx sz) {i e : Nat} (he : e < 10) : ∀ k, agN F ns i (nI e) k = agM G ns i (nI e) k
  | 0 => rfl
  | k + 1 => by rw [agN, agM, S.ag he k, S.okh he]
theorem Sim.expect (S : Sim F G n nr ns h nx sz) (r : Int32) : exR F nr ns h r = exMR G nr ns h r := by
  unfold exR exMR
  by_cases hc : hasB r nr = true
  · rw [if_pos hc, if_pos hc]
    congr 1
    exact bits_congr (fun e he => S.ag he h)
  · rw [if_neg hc, if_neg hc]
theorem hasT6 : ∀ q, q < 64 → ∀ k, k < 6 → hasT (nI q) (nI k) = q.testBit k := by decide +kernel
theorem allN_rev {f : Nat → Bool} {m : Nat} : allN f m = allN (fun k => f (m - 1 - k)) m := by
  rw [Bool.eq_iff_iff, allN_iff, allN_iff]
  constructor
  · intro h k hk
    exact h _ (by omega)
  · intro h k hk
    have := h (m - 1 - k) (by omega)
    rw [show m - 1 - (m - 1 - k) = k by omega] at this
    exact this
theorem Sim.gone (S : Sim F G n nr ns h nx sz) (r a row said : Int32) : gnR F nr ns r a row said = gnMR G nr ns r a row said := by
  unfold gnR gnMR
  by_cases hc : hasB r nr = true
  · rw [if_pos hc, if_pos hc]
    by_cases ho : gnOk a row said = true
    · rw [if_pos ho, if_pos ho, ← allN_rev (f := smOk (ix row) ns)]
      by_cases ha : allN (smOk (ix row) ns) (ix a) = true
      · rw [if_pos ha, if_pos ha]
        have h5 := S.1.2.1.2.2.1
        have h4 := S.1.2.1.2.2.2
        obtain ⟨i, hi, rfl⟩ := hasB_of h5 hc
        rw [ix_nI (by omega)]
        unfold gnOk at ho
        rw [Bool.and_eq_true, Bool.and_eq_true, Bool.and_eq_true, Bool.and_eq_true, decide_eq_true_eq, decide_eq_true_eq, decide_eq_true_eq, decide_eq_true_eq] at ho
        obtain ⟨⟨h1, h6⟩, -, hs0, hs1⟩ := ho
        obtain ⟨m, hm1, hm6, rfl⟩ := ixm (K := 6) h1 h6 (by decide)
        rw [ix_nI (by omega)] at ha hs1 ⊢
        have hp : 2 ^ m ≤ 64 := Nat.pow_le_pow_right (n := 2) (by decide) hm6
        obtain ⟨q, hq, rfl⟩ := ix2 hs0 hs1 (by omega)
        congr 1
        refine bits_congr (fun fr hfr => ?_)
        have hl := bits_lt (gnS F i m (ix row) fr) m
        rw [Bool.eq_iff_iff, decide_eq_true_eq, nI_eq (by omega) (by omega), bits_eq_iff hq, allN_iff]
        have hk : ∀ k, k < m → gnS F i m (ix row) fr k = gnM G i m (ix row) fr k := by
          intro k hk
          obtain ⟨hI, hR, hg, -⟩ := S
          obtain ⟨-, ⟨-, -, e4, e5, e6, e7⟩, -⟩ := hR
          have hs := smOk_of h4 (allN_t ha (m - 1 - k) (by omega))
          unfold gnS gnM
          rw [sees_eq (hg.1 i hi) (le9_lits (hg.2 _ hs.2.1)) (le9_nI (by omega)), e6, e5, e4, e7]
        constructor
        · intro z k hk2
          unfold igM
          rw [← hk k hk2, z k hk2, hasT6 q (by omega) k (by omega)]
          simp
        · intro z k hk2
          have := z k hk2
          unfold igM at this
          rw [← hk k hk2, hasT6 q (by omega) k (by omega)] at this
          simpa using this
      · rw [if_neg ha, if_neg ha]
    · rw [if_neg ho, if_neg ho]
  · rw [if_neg hc, if_neg hc]
end SIM
