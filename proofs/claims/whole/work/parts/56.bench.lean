/-! ===== a reading taken, by both ===== -/
theorem lsb_nI {a t : Nat} (ht : t < 32) : (nI a).toBitVec.getLsbD t = a.testBit t := by
  rw [nI_bv, BitVec.getLsbD_ofNat]
  simp [ht]
theorem i_ext {a b : Int32} (h : ∀ t, t < 32 → a.toBitVec.getLsbD t = b.toBitVec.getLsbD t) : a = b := Int32.toBitVec_inj.mp (BitVec.eq_of_getLsbD_eq h)
theorem lsb_or (a b : Int32) (t : Nat) : (a ||| b).toBitVec.getLsbD t = (a.toBitVec.getLsbD t || b.toBitVec.getLsbD t) := by rw [Int32.toBitVec_or, BitVec.getLsbD_or]
theorem lsb_and (a b : Int32) (t : Nat) : (a &&& b).toBitVec.getLsbD t = (a.toBitVec.getLsbD t && b.toBitVec.getLsbD t) := by rw [Int32.toBitVec_and, BitVec.getLsbD_and]
theorem lsb_m1 : ∀ t, t < 32 → (-1 : Int32).toBitVec.getLsbD t = true := by decide +kernel
theorem lsb_not (a : Int32) {t : Nat} (ht : t < 32) : (a ^^^ (-1)).toBitVec.getLsbD t = !(a.toBitVec.getLsbD t) := by
  rw [Int32.toBitVec_xor, BitVec.getLsbD_xor, lsb_m1 t ht]
  simp
theorem or_clr (a b : Int32) : (a &&& (b ^^^ (-1))) ||| b = a ||| b := i_ext (fun t ht => by
  rw [lsb_or, lsb_and, lsb_not b ht, lsb_or]
  cases a.toBitVec.getLsbD t <;> cases b.toBitVec.getLsbD t <;> rfl)
theorem or_z (a : Int32) : a ||| 0 = a := i_ext (fun t ht => by
  rw [lsb_or, show (0 : Int32) = nI 0 from rfl, lsb_nI ht]
  simp)
theorem lsb_15 : ∀ i, i < 5 → ∀ t, t < 32 → (((15 : Int32) <<< (nI (4 * i) &&& 31)) ^^^ (-1)).toBitVec.getLsbD t = !(decide (4 * i ≤ t ∧ t < 4 * i + 4)) := by decide +kernel
theorem lsb_v : ∀ i, i < 5 → ∀ q, q < 16 → ∀ t, t < 32 → (nI q <<< (nI (4 * i) &&& 31)).toBitVec.getLsbD t = (decide (4 * i ≤ t ∧ t < 4 * i + 4) && q.testBit (t - 4 * i)) := by decide +kernel
theorem lsb_f : ∀ t, t < 32 → (15 : Int32).toBitVec.getLsbD t = decide (t < 4) := by decide +kernel
theorem lsb_set (x : Int32) {i q t : Nat} (hi : i < 5) (hq : q < 16) (ht : t < 32) : (setR x i (nI q)).toBitVec.getLsbD t = if 4 * i ≤ t ∧ t < 4 * i + 4 then q.testBit (t - 4 * i) else x.toBitVec.getLsbD t := by
  unfold setR
  rw [lsb_or, lsb_and, lsb_15 i hi t ht, lsb_v i hi q hq t ht]
  by_cases h : 4 * i ≤ t ∧ t < 4 * i + 4
  · rw [if_pos h]
    simp [h]
  · rw [if_neg h]
    simp [h]
theorem lsb_rdg (x : Int32) {i t : Nat} (hi : i < 5) (ht : t < 32) : (rdg x i).toBitVec.getLsbD t = (decide (t < 4) && x.toBitVec.getLsbD (4 * i + t)) := by
  unfold rdg
  rw [lsb_and, lsb_f t ht]
  have e : (x >>> (nI (4 * i) &&& 31)).toBitVec = x.toBitVec.sshiftRight ((nI (4 * i) &&& 31).toBitVec.smod 32).toNat := rfl
  rw [e, sc31 (4 * i) (by omega), BitVec.getLsbD_sshiftRight]
  by_cases h4 : t < 4
  · rw [if_pos (by omega)]
    simp [h4]
    omega
  · simp [h4]
theorem rdg_set (x : Int32) {i r q : Nat} (hi : i < 5) (hr : r < 5) (hq : q < 16) : rdg (setR x i (nI q)) r = if r = i then nI q else rdg x r := i_ext (fun t ht => by
  rw [lsb_rdg _ hr ht]
  by_cases h4 : t < 4
  · rw [lsb_set x hi hq (by omega)]
    by_cases e : r = i
    · subst e
      rw [if_pos rfl, if_pos (by omega), lsb_nI ht, show 4 * r + t - 4 * r = t by omega]
      simp [h4]
    · rw [if_neg e, if_neg (by omega), lsb_rdg _ hr ht]
  · by_cases e : r = i
    · rw [if_pos e, lsb_nI ht, Nat.testBit_lt_two_pow (Nat.lt_of_lt_of_le hq (show 2 ^ 4 ≤ 2 ^ t from Nat.pow_le_pow_right (by decide) (by omega)))]
      simp [h4]
    · rw [if_neg e, lsb_rdg _ hr ht]
      simp [h4])
/-! sets of papers, changed -/
theorem clr_nI {k m : Nat} (hk : k < 2 ^ 20) (hm : m < 20) : nI k &&& (nI (2 ^ m) ^^^ (-1)) = nI (k &&& (2 ^ 20 - (2 ^ m + 1))) := i_ext (fun t ht => by
  have hp : 2 ^ m < 2 ^ 20 := Nat.pow_lt_pow_right (by decide) hm
  rw [lsb_and, lsb_not _ ht, lsb_nI ht, lsb_nI ht, lsb_nI ht, Nat.testBit_and, Nat.testBit_two_pow_sub_succ hp]
  by_cases h20 : t < 20
  · simp [h20]
  · rw [Nat.testBit_lt_two_pow (Nat.lt_of_lt_of_le hk (Nat.pow_le_pow_right (by decide) (by omega)))]
    simp)
theorem PM_clr {m : Int32} {nr ns i j : Nat} (h : PM m nr ns) (hi : i < 5) (hj : j < 4) : PM (m &&& (ppr i j ^^^ (-1))) nr ns := by
  obtain ⟨k, hk, rfl, hb⟩ := h
  refine ⟨k &&& (2 ^ 20 - (2 ^ (4 * i + j) + 1)), Nat.lt_of_le_of_lt Nat.and_le_left hk, clr_nI hk (by omega), fun a ha b hb2 ht => hb a ha b hb2 ?_⟩
  rw [Nat.testBit_and, Bool.and_eq_true] at ht
  exact ht.1
theorem PM_set {m : Int32} {nr ns i j : Nat} (h : PM m nr ns) (hi : i < nr) (hj : j < ns) (h5 : nr ≤ 5) (h4 : ns ≤ 4) : PM (m ||| ppr i j) nr ns := by
  obtain ⟨k, hk, rfl, hb⟩ := h
  refine ⟨k ||| 2 ^ (4 * i + j), Nat.or_lt_two_pow hk (Nat.pow_lt_pow_right (by decide) (by omega)), nI_or _ _, fun a ha b hb2 ht => ?_⟩
  rw [Nat.testBit_or, Bool.or_eq_true, Nat.testBit_two_pow, decide_eq_true_eq] at ht
  rcases ht with ht | ht
  · exact hb a ha b hb2 ht
  · omega
theorem PM_0 (nr ns : Nat) : PM 0 nr ns := ⟨0, by decide, rfl, fun _ _ _ _ h => by simp at h⟩
/-- a bench and its row, in their bounds -/
def BQ (f g : Nat → Int32) : Prop := BRel f g ∧ (∀ r, r < 5 → le9 (rdg (f 2) r)) ∧ (f 3 = 0 ∨ f 3 = 1) ∧ (f 4 = 0 ∨ f 4 = 1)
theorem BRel.c {f f' g g' : Nat → Int32} (h : BRel f g) (hf : ∀ k, k < 5 → f' k = f k) (hg : ∀ k, k < 9 → g' k = g k) : BRel f' g' := by
  obtain ⟨h0, h1, h2, h3, h4⟩ := h
  unfold BRel
  rw [hf 0 (by decide), hf 1 (by decide), hf 2 (by decide), hf 3 (by decide), hf 4 (by decide), hg 5 (by decide), hg 6 (by decide), hg 7 (by decide), hg 8 (by decide)]
  exact ⟨h0, h1, fun r hr => by rw [h2 r hr, hg r (by omega)], h3, h4⟩
theorem BQ.c {f f' g g' : Nat → Int32} (h : BQ f g) (hf : ∀ k, k < 5 → f' k = f k) (hg : ∀ k, k < 9 → g' k = g k) : BQ f' g' := by
  obtain ⟨h0, h1, h2, h3⟩ := h
  refine ⟨h0.c hf hg, ?_, ?_, ?_⟩
  · rw [hf 2 (by decide)]; exact h1
  · rw [hf 3 (by decide)]; exact h2
  · rw [hf 4 (by decide)]; exact h3
theorem PB.c {f f' : Nat → Int32} {nr ns : Nat} (h : PB f nr ns) (hf : ∀ k, k < 5 → f' k = f k) : PB f' nr ns := by
  unfold PB
  rw [hf 0 (by decide), hf 1 (by decide)]
  exact h
theorem inc_a : ∀ q, q ≤ 9 → inc9 (nI q) = nI (if q < 9 then q + 1 else 9) := by decide
theorem inc_b : ∀ q, q ≤ 9 → nI q + (if 9 ≤ nI q then 0 else 1) = nI (if q < 9 then q + 1 else 9) := by decide
theorem tk_B {f f' g g' : Nat → Int32} {i j nr ns : Nat} {y : Bool} (hi : i < nr) (hj : j < ns) (h5 : nr ≤ 5) (h4 : ns ≤ 4) (B : BQ f g) (P : PB f nr ns)
    (f0 : f' 0 = (f 0 &&& (ppr i j ^^^ (-1))) ||| (if y = true then ppr i j else 0)) (f1 : f' 1 = (f 1 &&& (ppr i j ^^^ (-1))) ||| (if y = true then 0 else ppr i j)) (f2 : f' 2 = setR (f 2) i (inc9 (rdg (f 2) i))) (f3 : f' 3 = f 3) (f4 : f' 4 = f 4)
    (g5 : g' 5 = orM y (g 5) (ppr i j)) (g6 : g' 6 = orM (!y) (g 6) (ppr i j)) (gi : g' i = g i + (if 9 ≤ g i then 0 else 1)) (gr : ∀ r, r < 5 → r ≠ i → g' r = g r) (g7 : g' 7 = g 7) (g8 : g' 8 = g 8) : BQ f' g' ∧ PB f' nr ns := by
  obtain ⟨⟨b0, b1, b2, b3, b4⟩, R, z3, z4⟩ := B
  obtain ⟨P0, P1⟩ := P
  obtain ⟨q, hq, eq⟩ := R i (by omega)
  have e2 : ∀ r, r < 5 → rdg (f' 2) r = if r = i then nI (if q < 9 then q + 1 else 9) else rdg (f 2) r := by
    intro r hr
    rw [f2, eq, inc_a q hq, rdg_set _ (by omega) hr (by split <;> omega)]
  have e0 : f' 0 = orM y (f 0) (ppr i j) := by
    rw [f0]
    unfold orM
    cases y
    · rw [if_neg (by decide), if_neg (by decide), or_z]
    · rw [if_pos rfl, if_pos rfl, or_clr]
  have e1 : f' 1 = orM (!y) (f 1) (ppr i j) := by
    rw [f1]
    unfold orM
    cases y
    · rw [if_neg (by decide), if_pos (show (!false) = true from rfl), or_clr]
    · rw [if_pos rfl, if_neg (by decide), or_z]
  have pm : ∀ (y : Bool) (m : Int32), PM m nr ns → PM (orM y m (ppr i j)) nr ns := by
    intro y m hm
    unfold orM
    split
    · exact PM_set hm hi hj h5 h4
    · exact PM_clr hm (by omega) (by omega)
  refine ⟨⟨⟨by rw [e0, g5, b0], by rw [e1, g6, b1], fun r hr => ?_, by rw [f3, g7, b3], by rw [f4, g8, b4]⟩, fun r hr => ?_, by rw [f3]; exact z3, by rw [f4]; exact z4⟩, by rw [e0]; exact pm _ _ P0, by rw [e1]; exact pm _ _ P1⟩
  · rw [e2 r hr]
    by_cases e : r = i
    · subst e
      rw [if_pos rfl, gi, ← b2 r hr, eq, inc_b q hq]
    · rw [if_neg e, gr r hr e, b2 r hr]
  · rw [e2 r hr]
    by_cases e : r = i
    · rw [if_pos e]
      exact ⟨_, by split <;> omega, rfl⟩
    · rw [if_neg e]
      exact R r hr
/-! cells that a reading changes -/
theorem tkR_off {F : FF} {b i j c : Nat} {y : Bool} (h : c ≠ b) : tkR F b i j y c = F c := by
  funext k
  unfold tkR
  rw [up2_n _ _ (Or.inl h), up2_n _ _ (Or.inl h), up2_n _ _ (Or.inl h)]
theorem rdM_off {G : FF} {v i j c : Nat} {y : Bool} (h : c ≠ 5) : rdM G v i j y c = G c := by
  funext k
  unfold rdM
  rw [up2_n _ _ (Or.inl h), up2_n _ _ (Or.inl h), up2_n _ _ (Or.inl h)]
theorem rdM_at (G : FF) (v i j k : Nat) (y : Bool) (hi : i < 5) : rdM G v i j y 5 (9 * v + k) = if k = i then G 5 (9 * v + i) + (if 9 ≤ G 5 (9 * v + i) then 0 else 1) else if k = 6 then orM (!y) (G 5 (9 * v + 6)) (ppr i j) else if k = 5 then orM y (G 5 (9 * v + 5)) (ppr i j) else G 5 (9 * v + k) := by
  unfold rdM
  rw [up2_at, up2_at, up2_at]
  by_cases e1 : k = i
  · rw [if_pos ⟨rfl, by omega⟩, if_pos e1]
  · rw [if_neg (fun z => e1 (by omega)), if_neg e1]
    by_cases e2 : k = 6
    · rw [if_pos ⟨rfl, by omega⟩, if_pos e2]
    · rw [if_neg (fun z => e2 (by omega)), if_neg e2]
      by_cases e3 : k = 5
      · rw [if_pos ⟨rfl, by omega⟩, if_pos e3]
      · rw [if_neg (fun z => e3 (by omega)), if_neg e3]
theorem rdM_out {G : FF} {v i j k : Nat} {y : Bool} (hi : i < 5) (h : k < 9 * v ∨ 9 * v + 9 ≤ k) : rdM G v i j y 5 k = G 5 k := by
  unfold rdM
  rw [up2_n _ _ (Or.inr (by omega)), up2_n _ _ (Or.inr (by omega)), up2_n _ _ (Or.inr (by omega))]
theorem tk_BQ {F G : FF} {b v i j nr ns : Nat} {y : Bool} (hi : i < nr) (hj : j < ns) (h5 : nr ≤ 5) (h4 : ns ≤ 4) (B : BQ (F b) (fun k => G 5 (9 * v + k))) (P : PB (F b) nr ns) :
    BQ (tkR F b i j y b) (fun k => rdM G v i j y 5 (9 * v + k)) ∧ PB (tkR F b i j y b) nr ns := by
  have hi5 : i < 5 := by omega
  refine tk_B hi hj h5 h4 B P (y := y) ?_ ?_ ?_ ?_ ?_ ?_ ?_ ?_ ?_ ?_ ?_
  · unfold tkR
    rw [up2_n _ _ (Or.inr (by decide)), up2_s]
  · unfold tkR
    rw [up2_s]
  · unfold tkR
    rw [up2_n _ _ (Or.inr (by decide)), up2_n _ _ (Or.inr (by decide)), up2_s]
  · unfold tkR
    rw [up2_n _ _ (Or.inr (by decide)), up2_n _ _ (Or.inr (by decide)), up2_n _ _ (Or.inr (by decide))]
  · unfold tkR
    rw [up2_n _ _ (Or.inr (by decide)), up2_n _ _ (Or.inr (by decide)), up2_n _ _ (Or.inr (by decide))]
  · show rdM G v i j y 5 (9 * v + 5) = _
    rw [rdM_at G v i j 5 y hi5, if_neg (by omega), if_neg (by decide), if_pos rfl]
  · show rdM G v i j y 5 (9 * v + 6) = _
    rw [rdM_at G v i j 6 y hi5, if_neg (by omega), if_pos rfl]
  · show rdM G v i j y 5 (9 * v + i) = _
    rw [rdM_at G v i j i y hi5, if_pos rfl]
  · intro r hr hn
    show rdM G v i j y 5 (9 * v + r) = _
    rw [rdM_at G v i j r y hi5, if_neg hn, if_neg (by omega), if_neg (by omega)]
  · show rdM G v i j y 5 (9 * v + 7) = _
    rw [rdM_at G v i j 7 y hi5, if_neg (by omega), if_neg (by decide), if_neg (by decide)]
  · show rdM G v i j y 5 (9 * v + 8) = _
    rw [rdM_at G v i j 8 y hi5, if_neg (by omega), if_neg (by decide), if_neg (by decide)]
