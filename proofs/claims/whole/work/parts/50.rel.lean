/-! ===== the two states side by side ===== -/
def BRel (f g : Nat → Int32) : Prop := f 0 = g 5 ∧ f 1 = g 6 ∧ (∀ r, r < 5 → rdg (f 2) r = g r) ∧ f 3 = g 7 ∧ f 4 = g 8
def Rel (F G : FF) : Prop :=
  (F 1 1 = G 0 12 ∧ F 2 = G 8) ∧ (F 3 4 = G 0 0 ∧ F 3 5 = G 0 1 ∧ F 4 = G 1 ∧ F 5 = G 2 ∧ F 6 = G 3 ∧ F 7 = G 4) ∧ BRel (F 19) (G 5) ∧
  (F 8 1 = G 0 16 ∧ F 8 2 = G 0 15 ∧ True) ∧
  (F 10 4 = G 0 18 ∧ F 11 = G 10 ∧ F 12 = G 11 ∧ F 13 = G 12 ∧ F 14 = G 13) ∧
  (F 16 = G 14 ∧ True)
/-- a set of papers of readers and samples that there are -/
def PM (m : Int32) (nr ns : Nat) : Prop := ∃ k : Nat, k < 2 ^ 20 ∧ m = nI k ∧ ∀ i, i < 5 → ∀ j, j < 4 → k.testBit (4 * i + j) = true → i < nr ∧ j < ns
def PB (f : Nat → Int32) (nr ns : Nat) : Prop := PM (f 0) nr ns ∧ PM (f 1) nr ns
def le9 (v : Int32) : Prop := ∃ q : Nat, q ≤ 9 ∧ v = nI q
/-- numbers in their bounds -/
def RG (F : FF) (nr ns : Nat) : Prop := (∀ i, i < nr → le9 (F 4 i)) ∧ (∀ j, j < ns → le9 (F 7 j))
def RD (F : FF) : Prop := ∀ b, 19 ≤ b → b < 36 → ∀ r, r < 5 → le9 (rdg (F b 2) r)
/-- a bench that can be come back to, and its row -/
def BL (f g : Nat → Int32) (nr ns : Nat) : Prop := PB f nr ns ∧ BRel f g
def LV (F G : FF) (nr ns nx sz : Nat) : Prop := PB (F 19) nr ns ∧ (∀ t, 1 ≤ t → t ≤ sz → BL (F ((nx + 14 - t) % 14 + 20)) (fun k => G 9 (9 * ((nx + 14 - t) % 14) + k)) nr ns) ∧ ∀ j, j < 2 → F 16 j = 1 → BL (F (j + 34)) (fun k => G 15 (9 * j + k)) nr ns
def Sim (F G : FF) (n nr ns h nx sz : Nat) : Prop := IN F n nr ns h nx sz ∧ Rel F G ∧ RG F nr ns ∧ RD F ∧ LV F G nr ns nx sz
section SIM
variable {F G : FF} {n nr ns h nx sz : Nat}
theorem Sim.mr (S : Sim F G n nr ns h nx sz) : MR G nr ns := ⟨S.2.1.2.1.1.symm.trans S.1.2.1.1, S.2.1.2.1.2.1.symm.trans S.1.2.1.2.1, S.1.2.1.2.2⟩
theorem Sim.ma (S : Sim F G n nr ns h nx sz) : MA G nx sz := ⟨S.2.1.2.2.2.1.1.symm.trans S.1.2.2.2.1.1, S.2.1.2.2.2.1.2.1.symm.trans S.1.2.2.2.1.2.1, S.1.2.2.2.1.2.2⟩
theorem Sim.mh (S : Sim F G n nr ns h nx sz) : MH G h := ⟨S.2.1.2.2.2.2.1.1.symm.trans S.1.2.2.1.1, S.1.2.2.1.2.1⟩
theorem Sim.mt (S : Sim F G n nr ns h nx sz) : G 0 12 = nI n ∧ n ≤ 36 := ⟨S.2.1.1.1.symm.trans S.1.1.1, S.1.1.2⟩
/-! a sample seen, by both -/
theorem sees1_eq : ∀ e, e ≤ 9 → ∀ b, b ≤ 9 → ∀ r, r ≤ 9 → ∀ t : Bool, sees 1 (nI e) (nI b) (nI r) t = seesM 1 (nI e) (nI b) (nI r) t := by decide +kernel
theorem sees2_eq : ∀ e, e ≤ 9 → ∀ b, b ≤ 9 → ∀ r, r ≤ 9 → ∀ t : Bool, sees 2 (nI e) (nI b) (nI r) t = seesM 2 (nI e) (nI b) (nI r) t := by decide +kernel
theorem sees0_eq : ∀ e, e ≤ 9 → ∀ b, b ≤ 9 → ∀ r, r ≤ 9 → ∀ t : Bool, sees 0 (nI e) (nI b) (nI r) t = seesM 0 (nI e) (nI b) (nI r) t := by decide +kernel
theorem sees_k {k e b r : Int32} {t : Bool} (h1 : ¬ k = 1) (h2 : ¬ k = 2) : sees k e b r t = sees 0 e b r t ∧ seesM k e b r t = seesM 0 e b r t := by
  unfold sees seesM sees1
  simp [h1, h2]
theorem sees_eq {k e b r : Int32} {t : Bool} (he : le9 e) (hb : le9 b) (hr : le9 r) : sees k e b r t = seesM k e b r t := by
  obtain ⟨e', he', rfl⟩ := he
  obtain ⟨b', hb', rfl⟩ := hb
  obtain ⟨r', hr', rfl⟩ := hr
  by_cases h1 : k = 1
  · rw [h1]; exact sees1_eq e' he' b' hb' r' hr' t
  · by_cases h2 : k = 2
    · rw [h2]; exact sees2_eq e' he' b' hb' r' hr' t
    · rw [(sees_k h1 h2).1, (sees_k h1 h2).2]; exact sees0_eq e' he' b' hb' r' hr' t
theorem le9_0 : le9 0 := ⟨0, by decide, rfl⟩
theorem le9_lits {p : Bool} {b : Int32} (h : le9 b) : le9 (lits p b) := by
  unfold lits
  split
  · exact h
  · exact le9_0
theorem bits_congr {f g : Nat → Bool} : ∀ {n : Nat}, (∀ k, k < n → f k = g k) → bits f n = bits g n
  | 0, _ => rfl
  | n + 1, h => by rw [bits, bits, bits_congr (fun k hk => h k (by omega)), h n (by omega)]
theorem allN_congr {f g : Nat → Bool} : ∀ {n : Nat}, (∀ k, k < n → f k = g k) → allN f n = allN g n
  | 0, _ => rfl
  | n + 1, h => by rw [allN, allN, allN_congr (fun k hk => h k (by omega)), h n (by omega)]
theorem cntN_congr {f g : Nat → Bool} : ∀ {n : Nat}, (∀ k, k < n → f k = g k) → cntN f n = cntN g n
  | 0, _ => rfl
  | n + 1, h => by rw [cntN, cntN, cntN_congr (fun k hk => h k (by omega)), h n (by omega)]
theorem Sim.br (S : Sim F G n nr ns h nx sz) {i j : Nat} (hi : i < nr) (hj : j < ns) : sees (F 6 i) (F 4 i) (lits (tru (F 19 3)) (F 7 j)) (rdg (F 19 2) i) (tru (F 19 4)) = brM G 0 j i := by
  obtain ⟨hI, hR, hg, hd, -⟩ := S
  have h5 := hI.2.1.2.2.1
  rw [sees_eq (hg.1 i hi) (le9_lits (hg.2 j hj)) (hd 19 (by decide) (by decide) i (by omega))]
  obtain ⟨-, ⟨-, -, e4, e5, e6, e7⟩, ⟨-, -, b2, b3, b4⟩, -⟩ := hR
  unfold brM
  rw [e6, e4, e7, b2 i (by omega), b3, b4]
  simp only [Nat.mul_zero, Nat.zero_add]
theorem Sim.say (S : Sim F G n nr ns h nx sz) {i j : Nat} (hi : i < nr) (hj : j < ns) : sayF F (tru (F 19 3)) (tru (F 19 4)) j i = sayM G 0 j i := by
  have hb := S.br hi hj
  obtain ⟨-, hR, -⟩ := S
  obtain ⟨-, ⟨-, -, -, e5, e6, -⟩, -⟩ := hR
  unfold sayF sayM
  rw [hb, e5, e6]
theorem Sim.sx (S : Sim F G n nr ns h nx sz) {i j : Nat} {p t : Bool} (hi : i < nr) (hj : j < ns) : sayF F p t j i = sayX G (fun _ => lits p (G 4 j)) t i := by
  obtain ⟨hI, hR, hg, hd, -⟩ := S
  have h5 := hI.2.1.2.2.1
  unfold sayF sayX
  rw [sees_eq (hg.1 i hi) (le9_lits (hg.2 j hj)) (hd 19 (by decide) (by decide) i (by omega))]
  obtain ⟨-, ⟨-, -, e4, e5, e6, e7⟩, ⟨-, -, b2, b3, b4⟩, -⟩ := hR
  rw [e6, e4, e5, e7, b2 i (by omega)]
theorem Sim.yes (S : Sim F G n nr ns h nx sz) {j : Nat} (hj : j < ns) : yesS F nr j = yesM G nr j := bits_congr (fun _ hi => S.say hi hj)
end SIM
