/-! ===== sets of papers as numbers ===== -/
theorem nI_bv (a : Nat) : (nI a).toBitVec = BitVec.ofNat 32 a := rfl
theorem nI_ushr {a j : Nat} (ha : a < 2 ^ 31) {y : UInt32} (hj : y.toNat % 32 = j) : ((nI a).toUInt32 >>> y).toInt32 = nI (a / 2 ^ j) := by
  apply Int32.toBitVec_inj.mp
  apply BitVec.eq_of_toNat_eq
  show ((nI a).toUInt32 >>> y).toNat = _
  rw [UInt32.toNat_shiftRight, hj, nI_bv, BitVec.toNat_ofNat]
  have h1 : (nI a).toUInt32.toNat = a := by
    show (BitVec.ofNat 32 a).toNat = a
    rw [BitVec.toNat_ofNat, Nat.mod_eq_of_lt (by omega)]
  rw [h1, Nat.shiftRight_eq_div_pow, Nat.mod_eq_of_lt]
  exact Nat.lt_of_le_of_lt (Nat.div_le_self _ _) (by omega)
theorem sc31 : ∀ i, i < 32 → ((nI i &&& 31).toBitVec.smod 32).toNat = i := by decide +kernel
theorem nI_sshr {a i : Nat} (ha : a < 2 ^ 31) (hi : i < 32) : nI a >>> (nI i &&& 31) = nI (a / 2 ^ i) := by
  apply Int32.toBitVec_inj.mp
  have e : (nI a >>> (nI i &&& 31)).toBitVec = (nI a).toBitVec.sshiftRight ((nI i &&& 31).toBitVec.smod 32).toNat := rfl
  rw [e, sc31 i hi, nI_bv, nI_bv]
  have hm : (BitVec.ofNat 32 a).msb = false := by
    rw [BitVec.msb_eq_decide, decide_eq_false_iff_not, BitVec.toNat_ofNat, Nat.mod_eq_of_lt (by omega)]
    simp only [Nat.reduceSub, Nat.reducePow] at *
    omega
  rw [BitVec.sshiftRight_eq_of_msb_false hm]
  apply BitVec.eq_of_toNat_eq
  rw [BitVec.toNat_ushiftRight, BitVec.toNat_ofNat, BitVec.toNat_ofNat, Nat.mod_eq_of_lt (show a < 2 ^ 32 by omega), Nat.shiftRight_eq_div_pow, Nat.mod_eq_of_lt]
  exact Nat.lt_of_le_of_lt (Nat.div_le_self _ _) (by omega)
theorem and1 (a : Nat) : nI a &&& 1 = nI (a % 2) := by
  rw [show (1 : Int32) = nI 1 from rfl, nI_and, Nat.and_one_is_mod]
theorem sbit {a i : Nat} (ha : a < 2 ^ 31) (hi : i < 32) : (nI a >>> (nI i &&& 31)) &&& 1 = nI (if a.testBit i = true then 1 else 0) := by
  rw [nI_sshr ha hi, and1, Nat.testBit_eq_decide_div_mod_eq]
  rcases Nat.mod_two_eq_zero_or_one (a / 2 ^ i) with z | z <;> rw [z] <;> rfl
theorem hasT_nI {a i : Nat} (ha : a < 2 ^ 31) (hi : i < 32) : hasT (nI a) (nI i) = a.testBit i := by
  unfold hasT
  rw [sbit ha hi]
  cases a.testBit i <;> decide
theorem onI_nI {a : Nat} (ha : a < 2 ^ 31) : ∀ n, n ≤ 32 → onI (nI a) n = nI (cntN a.testBit n)
  | 0, _ => rfl
  | n + 1, hn => by
    rw [onI, onI_nI ha n (by omega), sbit ha (by omega), cntN]
    exact nI_add _ _
theorem and_p2 (k i : Nat) : k &&& 2 ^ i = 0 ↔ k.testBit i = false := by
  constructor
  · intro e
    have := congrArg (fun x => x.testBit i) e
    simpa [Nat.testBit_and, Nat.testBit_two_pow] using this
  · intro e
    apply Nat.eq_of_testBit_eq
    intro j
    rw [Nat.testBit_and, Nat.testBit_two_pow]
    by_cases q : i = j
    · subst q; simp [e]
    · simp [q]
theorem and_ppr {k i j : Nat} (hk : k < 2 ^ 20) : nI k &&& ppr i j = 0 ↔ k.testBit (4 * i + j) = false := by
  unfold ppr
  have hle : k &&& 2 ^ (4 * i + j) ≤ k := Nat.and_le_left
  rw [nI_and, show (0 : Int32) = nI 0 from rfl, nI_eq (by omega) (by omega), and_p2]
/-! the count of bits, in a word's way -/
theorem and_split {w : Nat} {a m b n : Nat} (ha : a < 2 ^ w) (hm : m < 2 ^ w) : (a + 2 ^ w * b) &&& (m + 2 ^ w * n) = (a &&& m) + 2 ^ w * (b &&& n) := by
  have hx : a &&& m < 2 ^ w := Nat.and_lt_two_pow _ hm
  apply Nat.eq_of_testBit_eq
  intro i
  rw [Nat.testBit_and, Nat.add_comm a, Nat.add_comm m, Nat.add_comm (a &&& m), Nat.testBit_two_pow_mul_add b ha, Nat.testBit_two_pow_mul_add n hm, Nat.testBit_two_pow_mul_add (b &&& n) hx]
  split
  · rw [Nat.testBit_and]
  · rw [Nat.testBit_and]
theorem and5 {a0 a1 a2 a3 a4 m0 m1 m2 m3 m4 M : Nat} (h0 : a0 < 16) (h1 : a1 < 16) (h2 : a2 < 16) (h3 : a3 < 16) (g0 : m0 < 16) (g1 : m1 < 16) (g2 : m2 < 16) (g3 : m3 < 16) (hM : M = m0 + 16 * (m1 + 16 * (m2 + 16 * (m3 + 16 * m4)))) :
    (a0 + 16 * (a1 + 16 * (a2 + 16 * (a3 + 16 * a4)))) &&& M = (a0 &&& m0) + 16 * ((a1 &&& m1) + 16 * ((a2 &&& m2) + 16 * ((a3 &&& m3) + 16 * (a4 &&& m4)))) := by
  subst hM
  rw [and_split (w := 4) h0 g0, and_split (w := 4) h1 g1, and_split (w := 4) h2 g2, and_split (w := 4) h3 g3]
theorem nyb5 : ∀ n, n < 16 → ∀ b, b < 2 → (n / 2 + 8 * b) &&& 5 = n / 2 % 2 + 4 * (n / 8) := by decide +kernel
def f1N (n : Nat) : Nat := n % 2 + n / 2 % 2 + 4 * (n / 4 % 2 + n / 8)
theorem f1_eq : ∀ n, n < 16 → f1N n + (n / 2 % 2 + 4 * (n / 8)) = n := by decide +kernel
def pc4 (n : Nat) : Nat := n % 2 + n / 2 % 2 + n / 4 % 2 + n / 8 % 2
theorem f2_eq : ∀ n, n < 16 → (f1N n &&& 3) + (f1N n / 4 &&& 3) = pc4 n ∧ f1N n ≤ 10 := by decide +kernel
theorem nyb3 : ∀ e, e < 16 → ∀ b, b < 4 → (e / 4 + 4 * b) &&& 3 = e / 4 &&& 3 := by decide +kernel
theorem a15 {n : Nat} (h : n < 16) : n &&& 15 = n := by
  rw [show 15 = 2 ^ 4 - 1 from rfl, Nat.and_two_pow_sub_one_eq_mod, Nat.mod_eq_of_lt h]
theorem big5 (a4 : Nat) (h : a4 < 16) : a4 / 2 &&& 21845 = a4 / 2 % 2 + 4 * (a4 / 8) := by
  revert a4; decide +kernel
theorem big3 : ∀ e, e < 16 → e &&& 13107 = e &&& 3 := by decide +kernel
theorem big3' : ∀ e, e < 16 → e / 4 &&& 13107 = e / 4 &&& 3 := by decide +kernel
theorem dig5 {k : Nat} (hk : k < 2 ^ 20) : ∃ a0 a1 a2 a3 a4, a0 < 16 ∧ a1 < 16 ∧ a2 < 16 ∧ a3 < 16 ∧ a4 < 16 ∧ k = a0 + 16 * (a1 + 16 * (a2 + 16 * (a3 + 16 * a4))) :=
  ⟨k % 16, k / 16 % 16, k / 256 % 16, k / 4096 % 16, k / 65536 % 16, by omega, by omega, by omega, by omega, by omega, by omega⟩
theorem nI_sub {a b : Nat} (h : b ≤ a) : nI a - nI b = nI (a - b) := pk_sub h
theorem bcI_dig {a0 a1 a2 a3 a4 : Nat} (h0 : a0 < 16) (h1 : a1 < 16) (h2 : a2 < 16) (h3 : a3 < 16) (h4 : a4 < 16) :
    bcI (nI (a0 + 16 * (a1 + 16 * (a2 + 16 * (a3 + 16 * a4))))) = nI (pc4 a0 + pc4 a1 + pc4 a2 + pc4 a3 + pc4 a4) := by
  have e1 : bc1 (nI (a0 + 16 * (a1 + 16 * (a2 + 16 * (a3 + 16 * a4))))) = nI (f1N a0 + 16 * (f1N a1 + 16 * (f1N a2 + 16 * (f1N a3 + 16 * f1N a4)))) := by
    unfold bc1
    rw [nI_ushr (j := 1) (by omega) (by decide), show (1431655765 : Int32) = nI 1431655765 from rfl, nI_and]
    have d : (a0 + 16 * (a1 + 16 * (a2 + 16 * (a3 + 16 * a4)))) / 2 ^ 1 = (a0 / 2 + 8 * (a1 % 2)) + 16 * ((a1 / 2 + 8 * (a2 % 2)) + 16 * ((a2 / 2 + 8 * (a3 % 2)) + 16 * ((a3 / 2 + 8 * (a4 % 2)) + 16 * (a4 / 2)))) := by omega
    rw [d, and5 (m0 := 5) (m1 := 5) (m2 := 5) (m3 := 5) (m4 := 21845) (by omega) (by omega) (by omega) (by omega) (by decide) (by decide) (by decide) (by decide) (by decide)]
    rw [nyb5 a0 h0 _ (by omega), nyb5 a1 h1 _ (by omega), nyb5 a2 h2 _ (by omega), nyb5 a3 h3 _ (by omega), big5 a4 h4]
    have q0 := f1_eq a0 h0
    have q1 := f1_eq a1 h1
    have q2 := f1_eq a2 h2
    have q3 := f1_eq a3 h3
    have q4 := f1_eq a4 h4
    rw [nI_sub (by omega)]
    congr 1
    omega
  obtain ⟨q0, r0⟩ := f2_eq a0 h0
  obtain ⟨q1, r1⟩ := f2_eq a1 h1
  obtain ⟨q2, r2⟩ := f2_eq a2 h2
  obtain ⟨q3, r3⟩ := f2_eq a3 h3
  obtain ⟨q4, r4⟩ := f2_eq a4 h4
  unfold bcI
  rw [e1]
  generalize f1N a0 = e0 at *
  generalize f1N a1 = e1 at *
  generalize f1N a2 = e2 at *
  generalize f1N a3 = e3 at *
  generalize f1N a4 = e4 at *
  have E2 : bc2 (nI (e0 + 16 * (e1 + 16 * (e2 + 16 * (e3 + 16 * e4))))) = nI (pc4 a0 + 16 * (pc4 a1 + 16 * (pc4 a2 + 16 * (pc4 a3 + 16 * pc4 a4)))) := by
    unfold bc2
    rw [nI_ushr (j := 2) (by omega) (by decide), show (858993459 : Int32) = nI 858993459 from rfl, nI_and, nI_and]
    have d : (e0 + 16 * (e1 + 16 * (e2 + 16 * (e3 + 16 * e4)))) / 2 ^ 2 = (e0 / 4 + 4 * (e1 % 4)) + 16 * ((e1 / 4 + 4 * (e2 % 4)) + 16 * ((e2 / 4 + 4 * (e3 % 4)) + 16 * ((e3 / 4 + 4 * (e4 % 4)) + 16 * (e4 / 4)))) := by omega
    rw [d, and5 (m0 := 3) (m1 := 3) (m2 := 3) (m3 := 3) (m4 := 13107) (by omega) (by omega) (by omega) (by omega) (by decide) (by decide) (by decide) (by decide) (by decide), and5 (m0 := 3) (m1 := 3) (m2 := 3) (m3 := 3) (m4 := 13107) (by omega) (by omega) (by omega) (by omega) (by decide) (by decide) (by decide) (by decide) (by decide)]
    rw [nyb3 e0 (by omega) _ (by omega), nyb3 e1 (by omega) _ (by omega), nyb3 e2 (by omega) _ (by omega), nyb3 e3 (by omega) _ (by omega), big3 e4 (by omega), big3' e4 (by omega), nI_add]
    congr 1
    omega
  rw [E2]
  have p4 : ∀ n, pc4 n ≤ 4 := fun n => by unfold pc4; omega
  have u0 := p4 a0
  have u1 := p4 a1
  have u2 := p4 a2
  have u3 := p4 a3
  have u4 := p4 a4
  clear q0 q1 q2 q3 q4 E2
  generalize pc4 a0 = c0 at *
  generalize pc4 a1 = c1 at *
  generalize pc4 a2 = c2 at *
  generalize pc4 a3 = c3 at *
  generalize pc4 a4 = c4 at *
  have E3 : bc3 (nI (c0 + 16 * (c1 + 16 * (c2 + 16 * (c3 + 16 * c4))))) = nI ((c0 + c1) + 256 * ((c2 + c3) + 256 * c4)) := by
    unfold bc3
    rw [nI_ushr (j := 4) (by omega) (by decide), show (252645135 : Int32) = nI 252645135 from rfl, nI_add, nI_and]
    have d : c0 + 16 * (c1 + 16 * (c2 + 16 * (c3 + 16 * c4))) + (c0 + 16 * (c1 + 16 * (c2 + 16 * (c3 + 16 * c4)))) / 2 ^ 4 = (c0 + c1) + 16 * ((c1 + c2) + 16 * ((c2 + c3) + 16 * ((c3 + c4) + 16 * c4))) := by omega
    rw [d, and5 (m0 := 15) (m1 := 0) (m2 := 15) (m3 := 0) (m4 := 3855) (by omega) (by omega) (by omega) (by omega) (by decide) (by decide) (by decide) (by decide) (by decide)]
    rw [a15 (by omega), a15 (by omega), Nat.and_zero, Nat.and_zero, (show ∀ e, e < 16 → e &&& 3855 = e by decide +kernel) c4 (by omega)]
    congr 1
    omega
  rw [E3]
  unfold bc4 
  rw [nI_ushr (j := 8) (by omega) (by decide), nI_add]
  unfold bc5
  rw [nI_ushr (j := 16) (by omega) (by decide), nI_add, show (63 : Int32) = nI (2 ^ 6 - 1) from rfl, nI_and, Nat.and_two_pow_sub_one_eq_mod]
  congr 1
  omega
theorem cnt_pc {k : Nat} : cntN k.testBit 4 = pc4 (k % 16) := by
  have h : ∀ i, (if k.testBit i = true then 1 else 0) = k / 2 ^ i % 2 := by
    intro i
    rw [Nat.testBit_eq_decide_div_mod_eq]
    rcases Nat.mod_two_eq_zero_or_one (k / 2 ^ i) with z | z <;> rw [z] <;> rfl
  simp only [cntN, h]
  unfold pc4
  omega
theorem cntN_add (f : Nat → Bool) (a : Nat) : ∀ b, cntN f (a + b) = cntN f a + cntN (fun k => f (a + k)) b
  | 0 => rfl
  | b + 1 => by rw [← Nat.add_assoc, cntN, cntN_add f a b, cntN, Nat.add_assoc]
theorem cnt_4 {k b : Nat} : cntN k.testBit (4 + b) = pc4 (k % 16) + cntN (k / 16).testBit b := by
  rw [cntN_add, cnt_pc]
  congr 1
  refine cntN_congr (fun i _ => ?_)
  rw [show k / 16 = k >>> 4 from (Nat.shiftRight_eq_div_pow k 4).symm, Nat.testBit_shiftRight]
theorem bcI_nI {k : Nat} (hk : k < 2 ^ 20) : bcI (nI k) = nI (cntN k.testBit 20) := by
  obtain ⟨a0, a1, a2, a3, a4, h0, h1, h2, h3, h4, rfl⟩ := dig5 hk
  rw [bcI_dig h0 h1 h2 h3 h4]
  congr 1
  rw [show 20 = 4 + 16 from rfl, cnt_4, show (a0 + 16 * (a1 + 16 * (a2 + 16 * (a3 + 16 * a4)))) % 16 = a0 by omega, show (a0 + 16 * (a1 + 16 * (a2 + 16 * (a3 + 16 * a4)))) / 16 = a1 + 16 * (a2 + 16 * (a3 + 16 * a4)) by omega]
  rw [show 16 = 4 + 12 from rfl, cnt_4]
  sorry
