/-! ===== rests, cover, share ===== -/
theorem tb_test (q i : Nat) : tb q i = q.testBit i := by unfold tb; rw [Nat.testBit_eq_decide_div_mod_eq]
theorem fit0 : ∀ n, n ≤ 5 → ∀ q, q < 2 ^ n → q &&& (31 - (2 ^ n - 1)) = 0 := by decide +kernel
theorem fitS : ∀ q, q < 32 → ∀ f, f < 32 → ∀ y, y < 32 → (q &&& (31 - (f &&& (31 - y))) = 0 ↔ q &&& (31 - f) = 0 ∧ y &&& q = 0) := by decide +kernel
theorem pcC : ∀ n, n ≤ 5 → ∀ y, y < 2 ^ n → ∀ q, q < 2 ^ n → pcN ((2 ^ n - 1 - y) &&& q) = pcN q - pcN (y &&& q) := by decide +kernel
def fitN (F : FF) (nr : Nat) : Nat → Nat
  | 0 => 2 ^ nr - 1
  | s + 1 => if 0 < F 7 s then fitN F nr s else fitN F nr s &&& (31 - yesS F nr s)
section SIM
variable {F G : FF} {n nr ns h nx sz : Nat}
theorem Sim.right (S : Sim F G n nr ns h nx sz) {i j : Nat} (hi : i < nr) (hj : j < ns) : tb (rightS F nr j) i = rgM G j i := by
  have hl : yesS F nr j < 2 ^ nr := bits_lt _ _
  have e7 : F 7 = G 4 := S.2.1.2.1.2.2.2.2.2
  have hs : (yesS F nr j).testBit i = sayM G 0 j i := by
    unfold yesS
    rw [tb_bits, S.say hi hj]
    simp [hi]
  rw [tb_test]
  unfold rightS rgM
  rw [← e7]
  by_cases hb : 0 < F 7 j
  · rw [if_pos hb, hs]
    simp [hb]
  · rw [if_neg hb, Nat.sub_sub, Nat.add_comm 1, Nat.testBit_two_pow_sub_succ hl, hs]
    simp [hb, hi]
theorem Sim.rests (S : Sim F G n nr ns h nx sz) (r o s w : Int32) : rtR F nr ns r o s w = rtMR G nr ns r o s w := by
  unfold rtR rtMR
  by_cases hc : (chk r nr s ns && hasB o nr) = true
  · rw [if_pos hc, if_pos hc]
    rw [Bool.and_eq_true] at hc
    have h5 := S.1.2.1.2.2.1
    have h4 := S.1.2.1.2.2.2
    obtain ⟨i, j, hi, hj, rfl, rfl⟩ := chk_of h5 h4 hc.1
    obtain ⟨k, hk, rfl⟩ := hasB_of h5 hc.2
    rw [ix_nI (show i < 100 by omega), ix_nI (show j < 100 by omega), ix_nI (show k < 100 by omega), S.right hi hj, S.right hk hj]
  · rw [if_neg hc, if_neg hc]
theorem yesS_lt (hr : nr ≤ 5) (j : Nat) : yesS F nr j < 32 := Nat.lt_of_lt_of_le (bits_lt _ _) (pow5 nr hr).1
theorem fitN_lt (hr : nr ≤ 5) : ∀ s, fitN F nr s < 32
  | 0 => by have := (pow5 nr hr).1; show 2 ^ nr - 1 < 32; omega
  | s + 1 => by
    rw [fitN]
    split
    · exact fitN_lt hr s
    · exact Nat.lt_of_le_of_lt Nat.and_le_left (fitN_lt hr s)
theorem fitI_N (hr : nr ≤ 5) : ∀ s, fitI F nr s = nI (fitN F nr s)
  | 0 => rfl
  | s + 1 => by
    rw [fitI, fitN]
    split
    · exact fitI_N hr s
    · rw [fitI_N hr s, andn _ (fitN_lt hr s) _ (yesS_lt hr s)]
theorem fitN_iff (hr : nr ≤ 5) {q : Nat} (hq : q < 2 ^ nr) : ∀ s, (q &&& (31 - fitN F nr s) = 0 ↔ ∀ k, k < s → ¬ 0 < F 7 k → yesS F nr k &&& q = 0)
  | 0 => ⟨fun _ k hk => by omega, fun _ => fit0 nr hr q hq⟩
  | s + 1 => by
    have h32 := (pow5 nr hr).1
    have ih := fitN_iff hr hq s
    rw [fitN]
    by_cases hb : 0 < F 7 s
    · rw [if_pos hb, ih]
      constructor
      · intro z k hk hn
        by_cases e : k = s
        · rw [e] at hn; exact absurd hb hn
        · exact z k (by omega) hn
      · intro z k hk hn
        exact z k (by omega) hn
    · rw [if_neg hb, fitS q (by omega) _ (fitN_lt hr s) _ (yesS_lt hr s), ih]
      constructor
      · rintro ⟨z1, z2⟩ k hk hn
        by_cases e : k = s
        · rw [e]; exact z2
        · exact z1 k (by omega) hn
      · intro z
        exact ⟨fun k hk hn => z k (by omega) hn, z s (by omega) hb⟩
theorem nI_z {a : Nat} (h : a < 2 ^ 31) : nI a = 0 ↔ a = 0 := nI_eq (b := 0) h (by decide)
theorem Sim.cvp (S : Sim F G n nr ns h nx sz) {q : Nat} (hq : q < 2 ^ nr) : cvP F nr ns q = allN (cvS G nr q) ns := by
  have h5 := S.1.2.1.2.2.1
  have h32 := (pow5 nr h5).1
  have e7 : F 7 = G 4 := S.2.1.2.1.2.2.2.2.2
  have hand : ∀ k, nI (yesS F nr k) &&& nI q = 0 ↔ yesS F nr k &&& q = 0 := fun k => by
    rw [nI_and, nI_z (Nat.lt_of_le_of_lt Nat.and_le_left (Nat.lt_trans (yesS_lt h5 k) (by decide)))]
  unfold cvP
  rw [Bool.eq_iff_iff, Bool.and_eq_true, decide_eq_true_eq, fitI_N h5, andn q (by omega) _ (fitN_lt h5 ns), nI_z (Nat.lt_of_le_of_lt Nat.and_le_left (by omega)), fitN_iff h5 hq, allN_iff, allN_iff]
  constructor
  · rintro ⟨z1, z2⟩ k hk
    have z3 := z2 k hk
    unfold saS at z3
    unfold cvS
    rw [← S.yes hk, ← e7]
    by_cases hb : 0 < F 7 k
    · simp only [hb, decide_true, Bool.not_true, Bool.false_or] at z3 ⊢
      rw [z3]
      rfl
    · have := (hand k).mpr (z1 k hk hb)
      simp [hb, this]
  · intro z
    refine ⟨fun k hk hb => ?_, fun k hk => ?_⟩
    · have z3 := z k hk
      unfold cvS at z3
      rw [← S.yes hk, ← e7] at z3
      simp only [hb, decide_false] at z3
      rw [← hand k]
      simpa using z3
    · have z3 := z k hk
      unfold cvS at z3
      rw [← S.yes hk, ← e7] at z3
      unfold saS
      by_cases hb : 0 < F 7 k
      · simp only [hb, decide_true] at z3 ⊢
        simpa using z3
      · simp [hb]
theorem bsN_val (P : Nat → Bool) : ∀ k, bsN P k = -9 ∨ ∃ q, q < k ∧ bsN P k = nI q
  | 0 => Or.inl rfl
  | k + 1 => by
    rw [bsN]
    split
    · exact Or.inr ⟨k, by omega, rfl⟩
    · rcases bsN_val P k with z | ⟨q, hq, e⟩
      · exact Or.inl z
      · exact Or.inr ⟨q, by omega, e⟩
theorem bs_eq {P P' : Nat → Bool} : ∀ {k : Nat}, k ≤ 32 → (∀ q, q < k → P q = P' q) → bsN P k = bsM P' k
  | 0, _, _ => rfl
  | k + 1, hk, hp => by
    have ih := bs_eq (P := P) (P' := P') (k := k) (by omega) (fun q hq => hp q (by omega))
    rw [bsN, bsM, ← ih, hp k (by omega)]
    have hc : (bsN P k = -9 ∨ bcI (nI k) < bcI (bsN P k)) ↔ (bsN P k = -9 ∨ onI (nI k) 20 < onI (bsN P k) 20) := by
      rcases bsN_val P k with z | ⟨q, hq, e⟩
      · simp [z]
      · rw [e, bc5x k (by omega), bc5x q (by omega), on5 k (by omega), on5 q (by omega)]
    by_cases hx : (bsN P k = -9 ∨ bcI (nI k) < bcI (bsN P k)) ∧ P' k = true
    · rw [if_pos hx, if_pos ⟨hc.mp hx.1, hx.2⟩]
    · rw [if_neg hx, if_neg (fun z => hx ⟨hc.mpr z.1, z.2⟩)]
theorem Sim.cover (S : Sim F G n nr ns h nx sz) : bsN (cvP F nr ns) (2 ^ nr) = bsM (fun q => allN (cvS G nr q) ns) (2 ^ nr) := bs_eq (pow5 nr S.1.2.1.2.2.1).1 (fun _ hq => S.cvp hq)
theorem Sim.rb (S : Sim F G n nr ns h nx sz) {q : Nat} (hq : q < 2 ^ nr) : rbN (rightS F nr) ns q = rbM G nr ns q := by
  have h5 := S.1.2.1.2.2.1
  have e7 : F 7 = G 4 := S.2.1.2.1.2.2.2.2.2
  unfold rbN rbM
  refine cntN_congr (fun s hs => ?_)
  unfold rbS rightS
  rw [← e7, ← S.yes hs]
  by_cases hb : 0 < F 7 s
  · rw [if_pos hb, if_pos hb]
  · rw [if_neg hb, if_neg hb, pcC nr h5 _ (show yesS F nr s < 2 ^ nr from bits_lt _ _) q hq]
theorem shG_congr {i : Nat} {od rb rb' : Nat → Int32} {K : Nat} : ∀ {k : Nat}, k ≤ K → (∀ q, q < K → rb q = rb' q) → (∀ q, q < K → q ||| 2 ^ i < K) → shG i od rb k = shG i od rb' k
  | 0, _, _, _ => rfl
  | k + 1, hk, h1, h2 => by rw [shG, shG, shG_congr (k := k) (by omega) h1 h2, h1 k (by omega), h1 _ (h2 k (by omega))]
theorem Sim.shv (S : Sim F G n nr ns h nx sz) {i : Nat} (hi : i < nr) : shV F nr ns i = shMV G nr ns i := by
  unfold shV shMV
  exact shG_congr (Nat.le_refl _) (fun q hq => by rw [S.rb hq]) (fun q hq => Nat.or_lt_two_pow hq (Nat.pow_lt_pow_right (by decide) hi))
def zI (z : Int) : Int32 := Int32.ofInt z
theorem zI_nI (a : Nat) : nI a = zI a := rfl
theorem sh_bound {i nr : Nat} {rb : Nat → Nat} (hr : nr ≤ 5) (hb : ∀ q, rb q ≤ 4) : ∀ k, ∃ z : Int, shG i (fun q => nI (ordN nr q)) (fun q => nI (rb q)) k = zI z ∧ z.natAbs ≤ 60000 * k
  | 0 => ⟨0, rfl, by decide⟩
  | k + 1 => by
    obtain ⟨z, h1, h2⟩ := sh_bound hr hb k
    rw [shG]
    split
    · have ho : ordN nr k ≤ 14400 := by
        unfold ordN
        have a1 := (fct_b (pcN k) (pcN_le k)).2
        have a2 := (fct_b (nr - 1 - pcN k) (by omega)).2
        exact Nat.le_trans (Nat.mul_le_mul a1 a2) (by decide)
      have b1 := hb k
      have b2 := hb (k ||| 2 ^ i)
      refine ⟨z + (ordN nr k : Int) * ((rb (k ||| 2 ^ i) : Int) - (rb k : Int)), ?_, ?_⟩
      · rw [h1]
        rw [zI_nI (ordN nr k), zI_nI (rb (k ||| 2 ^ i)), zI_nI (rb k)]
        unfold zI
        rw [Int32.ofInt_add, Int32.ofInt_mul, Int32.ofInt_sub]
      · have : ((ordN nr k : Int) * ((rb (k ||| 2 ^ i) : Int) - (rb k : Int))).natAbs ≤ 14400 * 4 := by
          rw [Int.natAbs_mul]
          exact Nat.mul_le_mul (by omega) (by omega)
        omega
    · exact ⟨z, h1, by omega⟩
theorem abZ_zI {z : Int} (h : z.natAbs < 2 ^ 31) : abZ (zI z) = nI z.natAbs := by
  unfold abZ
  have ht : (zI z).toInt = z := by
    unfold zI
    rw [Int32.toInt_ofInt, show Int32.size = 4294967296 from rfl]
    exact Int.bmod_eq_of_le (by omega) (by omega)
  by_cases h0 : 0 ≤ zI z
  · rw [if_pos h0]
    rw [i_le, ht, show (0 : Int32).toInt = 0 by decide] at h0
    rw [zI_nI, Int.natAbs_of_nonneg h0]
  · rw [if_neg h0]
    rw [i_le, ht, show (0 : Int32).toInt = 0 by decide] at h0
    rw [zI_nI]
    unfold zI
    rw [show (0 : Int32) = Int32.ofInt 0 from rfl, ← Int32.ofInt_sub]
    congr 1
    omega
theorem sh_abs (hr : nr ≤ 5) (hs : ns ≤ 4) (i : Nat) : ∃ a, a < 2 ^ 31 ∧ abZ (shV F nr ns i) = nI a := by
  obtain ⟨z, h1, h2⟩ := sh_bound (i := i) (nr := nr) (rb := fun q => rbN (rightS F nr) ns q) hr (fun q => Nat.le_trans (cntN_le _ _) hs) (2 ^ nr)
  have h32 := Nat.mul_le_mul_left 60000 (pow5 nr hr).1
  refine ⟨z.natAbs, by omega, ?_⟩
  unfold shV
  rw [h1, abZ_zI (by omega)]
theorem Sim.share (S : Sim F G n nr ns h nx sz) (a : Nat) (r : Int32) (up : Bool) : shR F nr ns a r up = shMR G nr ns a r up := by
  unfold shR shMR
  by_cases hc : hasB r nr = true
  · rw [if_pos hc, if_pos hc]
    obtain ⟨i, hi, rfl⟩ := hasB_of S.1.2.1.2.2.1 hc
    have h5 := S.1.2.1.2.2.1
    rw [ix_nI (by omega), S.shv hi]
  · rw [if_neg hc, if_neg hc]
end SIM
