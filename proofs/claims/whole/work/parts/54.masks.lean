/-! ===== sets of papers as numbers ===== -/
theorem nI_bv (a : Nat) : (nI a).toBitVec = BitVec.ofNat 32 a := rfl
theorem nI_ushr {a j : Nat} (ha : a < 2 ^ 31) {y : UInt32} (hj : y.toNat % 32 = j) : ((nI a).toUInt32 >>> y).toInt32 = nI (a / 2 ^ j) := by
  apply Int32.toBitVec_inj.mp
  apply BitVec.eq_of_toNat_eq
  show ((nI a).toUInt32 >>> y).toNat = _
  rw [UInt32.toNat_shiftRight, hj, nI_bv, BitVec.toNat_ofNat]
  have h1 : (nI a).toUInt32.toNat = a := by
    show (BitVec.ofNat 32 a).toNat = a
    rw [BitVec.toNat_ofNat, Nat.mod_eq_of_lt (by omega)]
  rw [h1, Nat.shiftRight_eq_div_pow, Nat.mod_eq_of_lt]
  exact Nat.lt_of_le_of_lt (Nat.div_le_self _ _) (by omega)
theorem sc31 : ∀ i, i < 32 → ((nI i &&& 31).toBitVec.smod 32).toNat = i := by decide +kernel
theorem nI_sshr {a i : Nat} (ha : a < 2 ^ 31) (hi : i < 32) : nI a >>> (nI i &&& 31) = nI (a / 2 ^ i) := by
  apply Int32.toBitVec_inj.mp
  have e : (nI a >>> (nI i &&& 31)).toBitVec = (nI a).toBitVec.sshiftRight ((nI i &&& 31).toBitVec.smod 32).toNat := rfl
  rw [e, sc31 i hi, nI_bv, nI_bv]
  have hm : (BitVec.ofNat 32 a).msb = false := by
    rw [BitVec.msb_eq_decide, decide_eq_false_iff_not, BitVec.toNat_ofNat, Nat.mod_eq_of_lt (by omega)]
    simp only [Nat.reduceSub, Nat.reducePow] at *
    omega
  rw [BitVec.sshiftRight_eq_of_msb_false hm]
  apply BitVec.eq_of_toNat_eq
  rw [BitVec.toNat_ushiftRight, BitVec.toNat_ofNat, BitVec.toNat_ofNat, Nat.mod_eq_of_lt (show a < 2 ^ 32 by omega), Nat.shiftRight_eq_div_pow, Nat.mod_eq_of_lt]
  exact Nat.lt_of_le_of_lt (Nat.div_le_self _ _) (by omega)
theorem and1 (a : Nat) : nI a &&& 1 = nI (a % 2) := by
  rw [show (1 : Int32) = nI 1 from rfl, nI_and, Nat.and_one_is_mod]
theorem sbit {a i : Nat} (ha : a < 2 ^ 31) (hi : i < 32) : (nI a >>> (nI i &&& 31)) &&& 1 = nI (if a.testBit i = true then 1 else 0) := by
  rw [nI_sshr ha hi, and1, Nat.testBit_eq_decide_div_mod_eq]
  rcases Nat.mod_two_eq_zero_or_one (a / 2 ^ i) with z | z <;> rw [z] <;> rfl
theorem hasT_nI {a i : Nat} (ha : a < 2 ^ 31) (hi : i < 32) : hasT (nI a) (nI i) = a.testBit i := by
  unfold hasT
  rw [sbit ha hi]
  cases a.testBit i <;> decide
theorem onI_nI {a : Nat} (ha : a < 2 ^ 31) : ∀ n, n ≤ 32 → onI (nI a) n = nI (cntN a.testBit n)
  | 0, _ => rfl
  | n + 1, hn => by
    rw [onI, onI_nI ha n (by omega), sbit ha (by omega), cntN]
    exact nI_add _ _
theorem and_p2 (k i : Nat) : k &&& 2 ^ i = 0 ↔ k.testBit i = false := by
  constructor
  · intro e
    have := congrArg (fun x => x.testBit i) e
    simpa [Nat.testBit_and, Nat.testBit_two_pow] using this
  · intro e
    apply Nat.eq_of_testBit_eq
    intro j
    rw [Nat.testBit_and, Nat.testBit_two_pow]
    by_cases q : i = j
    · subst q; simp [e]
    · simp [q]
theorem and_ppr {k i j : Nat} (hk : k < 2 ^ 20) : nI k &&& ppr i j = 0 ↔ k.testBit (4 * i + j) = false := by
  unfold ppr
  have hle : k &&& 2 ^ (4 * i + j) ≤ k := Nat.and_le_left
  rw [nI_and, show (0 : Int32) = nI 0 from rfl, nI_eq (by omega) (by omega), and_p2]
/-! the count of bits, in a word's way -/
theorem and_split {w : Nat} {a m b n : Nat} (ha : a < 2 ^ w) (hm : m < 2 ^ w) : (a + 2 ^ w * b) &&& (m + 2 ^ w * n) = (a &&& m) + 2 ^ w * (b &&& n) := by
  have hx : a &&& m < 2 ^ w := Nat.and_lt_two_pow _ hm
  apply Nat.eq_of_testBit_eq
  intro i
  rw [Nat.testBit_and, Nat.add_comm a, Nat.add_comm m, Nat.add_comm (a &&& m), Nat.testBit_two_pow_mul_add b ha, Nat.testBit_two_pow_mul_add n hm, Nat.testBit_two_pow_mul_add (b &&& n) hx]
  split
  · rw [Nat.testBit_and]
  · rw [Nat.testBit_and]
theorem and5 {a0 a1 a2 a3 a4 m0 m1 m2 m3 m4 M : Nat} (h0 : a0 < 16) (h1 : a1 < 16) (h2 : a2 < 16) (h3 : a3 < 16) (g0 : m0 < 16) (g1 : m1 < 16) (g2 : m2 < 16) (g3 : m3 < 16) (hM : M = m0 + 16 * (m1 + 16 * (m2 + 16 * (m3 + 16 * m4)))) :
    (a0 + 16 * (a1 + 16 * (a2 + 16 * (a3 + 16 * a4)))) &&& M = (a0 &&& m0) + 16 * ((a1 &&& m1) + 16 * ((a2 &&& m2) + 16 * ((a3 &&& m3) + 16 * (a4 &&& m4)))) := by
  subst hM
  rw [and_split (w := 4) h0 g0, and_split (w := 4) h1 g1, and_split (w := 4) h2 g2, and_split (w := 4) h3 g3]
theorem nyb5 : ∀ n, n < 16 → ∀ b, b < 2 → (n / 2 + 8 * b) &&& 5 = n / 2 % 2 + 4 * (n / 8) := by decide +kernel
def f1N (n : Nat) : Nat := n % 2 + n / 2 % 2 + 4 * (n / 4 % 2 + n / 8)
theorem f1_eq : ∀ n, n < 16 → f1N n + (n / 2 % 2 + 4 * (n / 8)) = n := by decide +kernel
def pc4 (n : Nat) : Nat := n % 2 + n / 2 % 2 + n / 4 % 2 + n / 8 % 2
theorem f2_eq : ∀ n, n < 16 → (f1N n &&& 3) + (f1N n / 4 &&& 3) = pc4 n ∧ f1N n ≤ 10 := by decide +kernel
theorem nyb3 : ∀ e, e < 16 → ∀ b, b < 4 → (e / 4 + 4 * b) &&& 3 = e / 4 &&& 3 := by decide +kernel
theorem a15 {n : Nat} (h : n < 16) : n &&& 15 = n := by
  rw [show 15 = 2 ^ 4 - 1 from rfl, Nat.and_two_pow_sub_one_eq_mod, Nat.mod_eq_of_lt h]
theorem big5 (a4 : Nat) (h : a4 < 16) : a4 / 2 &&& 21845 = a4 / 2 % 2 + 4 * (a4 / 8) := by
  revert a4; decide +kernel
theorem big3 : ∀ e, e < 16 → e &&& 13107 = e &&& 3 := by decide +kernel
theorem big3' : ∀ e, e < 16 → e / 4 &&& 13107 = e / 4 &&& 3 := by decide +kernel
theorem dig5 {k : Nat} (hk : k < 2 ^ 20) : ∃ a0 a1 a2 a3 a4, a0 < 16 ∧ a1 < 16 ∧ a2 < 16 ∧ a3 < 16 ∧ a4 < 16 ∧ k = a0 + 16 * (a1 + 16 * (a2 + 16 * (a3 + 16 * a4))) :=
  ⟨k % 16, k / 16 % 16, k / 256 % 16, k / 4096 % 16, k / 65536 % 16, by omega, by omega, by omega, by omega, by omega, by omega⟩
theorem nI_sub {a b : Nat} (h : b ≤ a) : nI a - nI b = nI (a - b) := pk_sub h
theorem hv (a B : Nat) : (a + 16 * B) / 2 = (a / 2 + 8 * (B % 2)) + 16 * (B / 2) := by omega
theorem hm (a B : Nat) : (a + 16 * B) % 2 = a % 2 := by omega
theorem qv (a B : Nat) : (a + 16 * B) / 4 = (a / 4 + 4 * (B % 4)) + 16 * (B / 4) := by omega
theorem qm (a B : Nat) : (a + 16 * B) % 4 = a % 4 := by omega
theorem dig_lt {a0 a1 a2 a3 a4 : Nat} (h0 : a0 < 16) (h1 : a1 < 16) (h2 : a2 < 16) (h3 : a3 < 16) (h4 : a4 < 16) : a0 + 16 * (a1 + 16 * (a2 + 16 * (a3 + 16 * a4))) < 2 ^ 31 := by omega
theorem lin_sub {a0 a1 a2 a3 a4 f0 f1 f2 f3 f4 u0 u1 u2 u3 u4 : Nat} (q0 : f0 + u0 = a0) (q1 : f1 + u1 = a1) (q2 : f2 + u2 = a2) (q3 : f3 + u3 = a3) (q4 : f4 + u4 = a4) :
    nI (a0 + 16 * (a1 + 16 * (a2 + 16 * (a3 + 16 * a4)))) - nI (u0 + 16 * (u1 + 16 * (u2 + 16 * (u3 + 16 * u4)))) = nI (f0 + 16 * (f1 + 16 * (f2 + 16 * (f3 + 16 * f4)))) := by
  subst q0 q1 q2 q3 q4
  rw [nI_sub (by omega)]
  exact congrArg nI (by omega)
theorem bc1_dig {a0 a1 a2 a3 a4 : Nat} (h0 : a0 < 16) (h1 : a1 < 16) (h2 : a2 < 16) (h3 : a3 < 16) (h4 : a4 < 16) :
    bc1 (nI (a0 + 16 * (a1 + 16 * (a2 + 16 * (a3 + 16 * a4))))) = nI (f1N a0 + 16 * (f1N a1 + 16 * (f1N a2 + 16 * (f1N a3 + 16 * f1N a4)))) := by
  have hs : ((nI (a0 + 16 * (a1 + 16 * (a2 + 16 * (a3 + 16 * a4))))).toUInt32 >>> ((1 : Int32).toUInt32 &&& Int32.toUInt32 31)).toInt32 = nI ((a0 + 16 * (a1 + 16 * (a2 + 16 * (a3 + 16 * a4)))) / 2) := nI_ushr (j := 1) (dig_lt h0 h1 h2 h3 h4) (by decide)
  have hx : (a0 + 16 * (a1 + 16 * (a2 + 16 * (a3 + 16 * a4)))) / 2 &&& 1431655765 = (a0 / 2 % 2 + 4 * (a0 / 8)) + 16 * ((a1 / 2 % 2 + 4 * (a1 / 8)) + 16 * ((a2 / 2 % 2 + 4 * (a2 / 8)) + 16 * ((a3 / 2 % 2 + 4 * (a3 / 8)) + 16 * (a4 / 2 % 2 + 4 * (a4 / 8))))) := by
    simp only [hv, hm]
    rw [and5 (m0 := 5) (m1 := 5) (m2 := 5) (m3 := 5) (m4 := 21845) (by omega) (by omega) (by omega) (by omega) (by decide) (by decide) (by decide) (by decide) (by decide)]
    rw [nyb5 a0 h0 _ (by omega), nyb5 a1 h1 _ (by omega), nyb5 a2 h2 _ (by omega), nyb5 a3 h3 _ (by omega), big5 a4 h4]
  unfold bc1
  rw [hs, show (1431655765 : Int32) = nI 1431655765 from rfl, nI_and, hx]
  exact lin_sub (f1_eq a0 h0) (f1_eq a1 h1) (f1_eq a2 h2) (f1_eq a3 h3) (f1_eq a4 h4)
theorem bc2_dig {e0 e1 e2 e3 e4 c0 c1 c2 c3 c4 : Nat} (r0 : e0 ≤ 10) (r1 : e1 ≤ 10) (r2 : e2 ≤ 10) (r3 : e3 ≤ 10) (r4 : e4 ≤ 10)
    (q0 : (e0 &&& 3) + (e0 / 4 &&& 3) = c0) (q1 : (e1 &&& 3) + (e1 / 4 &&& 3) = c1) (q2 : (e2 &&& 3) + (e2 / 4 &&& 3) = c2) (q3 : (e3 &&& 3) + (e3 / 4 &&& 3) = c3) (q4 : (e4 &&& 3) + (e4 / 4 &&& 3) = c4) :
    bc2 (nI (e0 + 16 * (e1 + 16 * (e2 + 16 * (e3 + 16 * e4))))) = nI (c0 + 16 * (c1 + 16 * (c2 + 16 * (c3 + 16 * c4)))) := by
  have hs : ((nI (e0 + 16 * (e1 + 16 * (e2 + 16 * (e3 + 16 * e4))))).toUInt32 >>> ((2 : Int32).toUInt32 &&& Int32.toUInt32 31)).toInt32 = nI ((e0 + 16 * (e1 + 16 * (e2 + 16 * (e3 + 16 * e4)))) / 4) := nI_ushr (j := 2) (dig_lt (by omega) (by omega) (by omega) (by omega) (by omega)) (by decide)
  have h1 : (e0 + 16 * (e1 + 16 * (e2 + 16 * (e3 + 16 * e4)))) &&& 858993459 = (e0 &&& 3) + 16 * ((e1 &&& 3) + 16 * ((e2 &&& 3) + 16 * ((e3 &&& 3) + 16 * (e4 &&& 3)))) := by
    rw [and5 (m0 := 3) (m1 := 3) (m2 := 3) (m3 := 3) (m4 := 13107) (by omega) (by omega) (by omega) (by omega) (by decide) (by decide) (by decide) (by decide) (by decide), big3 e4 (by omega)]
  have h2 : (e0 + 16 * (e1 + 16 * (e2 + 16 * (e3 + 16 * e4)))) / 4 &&& 858993459 = (e0 / 4 &&& 3) + 16 * ((e1 / 4 &&& 3) + 16 * ((e2 / 4 &&& 3) + 16 * ((e3 / 4 &&& 3) + 16 * (e4 / 4 &&& 3)))) := by
    simp only [qv, qm]
    rw [and5 (m0 := 3) (m1 := 3) (m2 := 3) (m3 := 3) (m4 := 13107) (by omega) (by omega) (by omega) (by omega) (by decide) (by decide) (by decide) (by decide) (by decide)]
    rw [nyb3 e0 (by omega) _ (by omega), nyb3 e1 (by omega) _ (by omega), nyb3 e2 (by omega) _ (by omega), nyb3 e3 (by omega) _ (by omega), big3' e4 (by omega)]
  unfold bc2
  rw [hs, show (858993459 : Int32) = nI 858993459 from rfl, nI_and, nI_and, h1, h2, nI_add]
  refine congrArg nI ?_
  subst q0 q1 q2 q3 q4
  generalize (e0 &&& 3) = x0
  generalize (e1 &&& 3) = x1
  generalize (e2 &&& 3) = x2
  generalize (e3 &&& 3) = x3
  generalize (e4 &&& 3) = x4
  generalize (e0 / 4 &&& 3) = y0
  generalize (e1 / 4 &&& 3) = y1
  generalize (e2 / 4 &&& 3) = y2
  generalize (e3 / 4 &&& 3) = y3
  generalize (e4 / 4 &&& 3) = y4
  omega
theorem bc3_dig {c0 c1 c2 c3 c4 : Nat} (r0 : c0 ≤ 4) (r1 : c1 ≤ 4) (r2 : c2 ≤ 4) (r3 : c3 ≤ 4) (r4 : c4 ≤ 4) :
    bc3 (nI (c0 + 16 * (c1 + 16 * (c2 + 16 * (c3 + 16 * c4))))) = nI ((c0 + c1) + 16 * (0 + 16 * ((c2 + c3) + 16 * (0 + 16 * c4)))) := by
  have hs : ((nI (c0 + 16 * (c1 + 16 * (c2 + 16 * (c3 + 16 * c4))))).toUInt32 >>> ((4 : Int32).toUInt32 &&& Int32.toUInt32 31)).toInt32 = nI ((c0 + 16 * (c1 + 16 * (c2 + 16 * (c3 + 16 * c4)))) / 16) := nI_ushr (j := 4) (dig_lt (by omega) (by omega) (by omega) (by omega) (by omega)) (by decide)
  have hd : (c0 + 16 * (c1 + 16 * (c2 + 16 * (c3 + 16 * c4)))) / 16 = c1 + 16 * (c2 + 16 * (c3 + 16 * c4)) := by
    generalize c1 + 16 * (c2 + 16 * (c3 + 16 * c4)) = B
    omega
  have hx : c0 + 16 * (c1 + 16 * (c2 + 16 * (c3 + 16 * c4))) + (c1 + 16 * (c2 + 16 * (c3 + 16 * c4))) = (c0 + c1) + 16 * ((c1 + c2) + 16 * ((c2 + c3) + 16 * ((c3 + c4) + 16 * c4))) := by omega
  unfold bc3
  rw [hs, show (252645135 : Int32) = nI 252645135 from rfl, hd, nI_add, nI_and, hx]
  rw [and5 (m0 := 15) (m1 := 0) (m2 := 15) (m3 := 0) (m4 := 3855) (by omega) (by omega) (by omega) (by omega) (by decide) (by decide) (by decide) (by decide) (by decide)]
  rw [a15 (by omega), a15 (by omega), Nat.and_zero, Nat.and_zero, (show ∀ e, e < 16 → e &&& 3855 = e by decide +kernel) c4 (by omega)]
theorem bc4_dig {x y z : Nat} (hx : x ≤ 8) (hy : y ≤ 8) (hz : z ≤ 4) : bc4 (nI (x + 16 * (0 + 16 * (y + 16 * (0 + 16 * z))))) = nI ((x + y) + 256 * ((y + z) + 256 * z)) := by
  have hs : ((nI (x + 16 * (0 + 16 * (y + 16 * (0 + 16 * z))))).toUInt32 >>> ((8 : Int32).toUInt32 &&& Int32.toUInt32 31)).toInt32 = nI ((x + 16 * (0 + 16 * (y + 16 * (0 + 16 * z)))) / 2 ^ 8) := nI_ushr (j := 8) (by omega) (by decide)
  have hd : (x + 16 * (0 + 16 * (y + 16 * (0 + 16 * z)))) / 2 ^ 8 = y + 256 * z := by omega
  unfold bc4
  rw [hs, hd, nI_add]
  exact congrArg nI (by omega)
theorem bc5_dig {x y z : Nat} (hx : x ≤ 16) (hy : y ≤ 12) (hz : z ≤ 4) : bc5 (nI (x + 256 * (y + 256 * z))) = nI ((x + z) + 256 * (y + 256 * z)) := by
  have hs : ((nI (x + 256 * (y + 256 * z))).toUInt32 >>> ((16 : Int32).toUInt32 &&& Int32.toUInt32 31)).toInt32 = nI ((x + 256 * (y + 256 * z)) / 2 ^ 16) := nI_ushr (j := 16) (by omega) (by decide)
  have hd : (x + 256 * (y + 256 * z)) / 2 ^ 16 = z := by omega
  unfold bc5
  rw [hs, hd, nI_add]
  exact congrArg nI (by omega)
theorem bcI_dig {a0 a1 a2 a3 a4 : Nat} (h0 : a0 < 16) (h1 : a1 < 16) (h2 : a2 < 16) (h3 : a3 < 16) (h4 : a4 < 16) :
    bcI (nI (a0 + 16 * (a1 + 16 * (a2 + 16 * (a3 + 16 * a4))))) = nI (pc4 a0 + pc4 a1 + pc4 a2 + pc4 a3 + pc4 a4) := by
  obtain ⟨q0, r0⟩ := f2_eq a0 h0
  obtain ⟨q1, r1⟩ := f2_eq a1 h1
  obtain ⟨q2, r2⟩ := f2_eq a2 h2
  obtain ⟨q3, r3⟩ := f2_eq a3 h3
  obtain ⟨q4, r4⟩ := f2_eq a4 h4
  have p4 : ∀ n, pc4 n ≤ 4 := fun n => by unfold pc4; omega
  have u0 := p4 a0
  have u1 := p4 a1
  have u2 := p4 a2
  have u3 := p4 a3
  have u4 := p4 a4
  unfold bcI
  rw [bc1_dig h0 h1 h2 h3 h4, bc2_dig r0 r1 r2 r3 r4 q0 q1 q2 q3 q4, bc3_dig u0 u1 u2 u3 u4, bc4_dig (by omega) (by omega) u4, bc5_dig (by omega) (by omega) u4]
  rw [show (63 : Int32) = nI (2 ^ 6 - 1) from rfl, nI_and, Nat.and_two_pow_sub_one_eq_mod]
  refine congrArg nI ?_
  generalize pc4 a0 = c0 at *
  generalize pc4 a1 = c1 at *
  generalize pc4 a2 = c2 at *
  generalize pc4 a3 = c3 at *
  generalize pc4 a4 = c4 at *
  clear q0 q1 q2 q3 q4 r0 r1 r2 r3 r4 p4
  omega
theorem cnt_pc {k : Nat} : cntN k.testBit 4 = pc4 (k % 16) := by
  have h : ∀ i, (if k.testBit i = true then 1 else 0) = k / 2 ^ i % 2 := by
    intro i
    rw [Nat.testBit_eq_decide_div_mod_eq]
    rcases Nat.mod_two_eq_zero_or_one (k / 2 ^ i) with z | z <;> rw [z] <;> rfl
  simp only [cntN, h]
  unfold pc4
  omega
theorem cntN_add (f : Nat → Bool) (a : Nat) : ∀ b, cntN f (a + b) = cntN f a + cntN (fun k => f (a + k)) b
  | 0 => rfl
  | b + 1 => by rw [← Nat.add_assoc, cntN, cntN_add f a b, cntN, Nat.add_assoc]
theorem cnt_4 {k b : Nat} : cntN k.testBit (4 + b) = pc4 (k % 16) + cntN (k / 16).testBit b := by
  rw [cntN_add, cnt_pc]
  congr 1
  refine cntN_congr (fun i _ => ?_)
  rw [show k / 16 = k >>> 4 from (Nat.shiftRight_eq_div_pow k 4).symm, Nat.testBit_shiftRight]
theorem cnt_dig {a b n : Nat} (ha : a < 16) : cntN (a + 16 * b).testBit (4 + n) = pc4 a + cntN b.testBit n := by
  rw [cnt_4, show (a + 16 * b) % 16 = a by omega, show (a + 16 * b) / 16 = b by omega]
theorem bcI_nI {k : Nat} (hk : k < 2 ^ 20) : bcI (nI k) = nI (cntN k.testBit 20) := by
  obtain ⟨a0, a1, a2, a3, a4, h0, h1, h2, h3, h4, rfl⟩ := dig5 hk
  rw [bcI_dig h0 h1 h2 h3 h4]
  have z : cntN (a4 / 16).testBit 0 = 0 := rfl
  have e : cntN (a0 + 16 * (a1 + 16 * (a2 + 16 * (a3 + 16 * a4)))).testBit (4 + (4 + (4 + (4 + (4 + 0))))) = pc4 a0 + (pc4 a1 + (pc4 a2 + (pc4 a3 + (pc4 a4 + 0)))) := by
    rw [cnt_dig h0, cnt_dig h1, cnt_dig h2, cnt_dig h3, cnt_4, Nat.mod_eq_of_lt h4, z]
  have e2 : cntN (a0 + 16 * (a1 + 16 * (a2 + 16 * (a3 + 16 * a4)))).testBit 20 = pc4 a0 + (pc4 a1 + (pc4 a2 + (pc4 a3 + (pc4 a4 + 0)))) := e
  rw [e2]
  exact congrArg nI (by omega)
