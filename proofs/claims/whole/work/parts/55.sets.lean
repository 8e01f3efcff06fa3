/-! ===== sample, count, wrong ===== -/
theorem bits_cut {f : Nat → Bool} {n : Nat} : ∀ m, (∀ i, n ≤ i → i < n + m → f i = false) → bits f (n + m) = bits f n
  | 0, _ => rfl
  | m + 1, h => by
    rw [← Nat.add_assoc, bits, bits_cut m (fun i h1 h2 => h i h1 (by omega)), h (n + m) (by omega) (by omega)]
    simp
theorem cntN_cut {f : Nat → Bool} {n : Nat} : ∀ m, (∀ i, n ≤ i → i < n + m → f i = false) → cntN f (n + m) = cntN f n
  | 0, _ => rfl
  | m + 1, h => by
    rw [← Nat.add_assoc, cntN, cntN_cut m (fun i h1 h2 => h i h1 (by omega)), h (n + m) (by omega) (by omega)]
    simp
theorem smN_cut {f : Nat → Nat} {n : Nat} : ∀ m, (∀ i, n ≤ i → i < n + m → f i = 0) → smN f (n + m) = smN f n
  | 0, _ => rfl
  | m + 1, h => by
    rw [← Nat.add_assoc, smN, smN_cut m (fun i h1 h2 => h i h1 (by omega)), h (n + m) (by omega) (by omega)]
    rfl
theorem cntN_0 : ∀ n, cntN (fun _ => false) n = 0
  | 0 => rfl
  | n + 1 => by rw [cntN, cntN_0 n]; rfl
theorem prN_nI {k j : Nat} (hk : k < 2 ^ 20) : ∀ n, n ≤ 6 → prN (nI k) j n = nI (bits (fun r => k.testBit (4 * r + j)) n)
  | 0, _ => rfl
  | n + 1, hn => by
    rw [prN, prN_nI hk n (by omega), bits]
    by_cases hb : k.testBit (4 * n + j) = true
    · rw [if_neg (fun e => by rw [(and_ppr hk).mp e] at hb; cases hb), if_pos hb, or_bit' _ (by omega)]
    · rw [Bool.not_eq_true] at hb
      rw [if_pos ((and_ppr hk).mpr hb), if_neg (by rw [hb]; decide), Nat.add_zero]
theorem ppM_nI {k j r : Nat} (hk : k < 2 ^ 20) (hr : 4 * r + j < 32) : ppM (nI k) j r = k.testBit (4 * r + j) := hasT_nI (by omega) hr
theorem nob {k nr ns i j : Nat} (hb : ∀ i, i < 5 → ∀ j, j < 4 → k.testBit (4 * i + j) = true → i < nr ∧ j < ns) (hi : i < 5) (hj : j < 4) (h : ¬ i < nr ∨ ¬ j < ns) : k.testBit (4 * i + j) = false := by
  cases e : k.testBit (4 * i + j) with
  | false => rfl
  | true =>
    have := hb i hi j hj e
    omega
theorem prn_eq {m : Int32} {nr ns j : Nat} (hm : PM m nr ns) (hr : nr ≤ 5) (hj : j < 4) : prN m j 5 = nI (bits (ppM m j) nr) := by
  obtain ⟨k, hk, rfl, hb⟩ := hm
  rw [prN_nI hk 5 (by decide)]
  refine congrArg nI ?_
  have h1 := bits_cut (f := fun r => k.testBit (4 * r + j)) (n := nr) (5 - nr) (fun i h1 h2 => nob hb (by omega) hj (Or.inl (by omega)))
  rw [show nr + (5 - nr) = 5 by omega] at h1
  rw [h1]
  exact bits_congr (fun i hi => (ppM_nI hk (by omega)).symm)
theorem pc_eq {f : Nat → Int32} {nr ns : Nat} (h : PB f nr ns) : bcI (f 0 ||| f 1) = onI (f 0 ||| f 1) 20 := by
  obtain ⟨⟨a, ha, ea, -⟩, b, hb, eb, -⟩ := h
  have hl := Nat.or_lt_two_pow ha hb
  rw [ea, eb, nI_or, bcI_nI hl, onI_nI (Nat.lt_trans hl (by decide)) 20 (by decide)]
/-! counts by sample -/
def csN (k s : Nat) : Nat := cntN (fun r => k.testBit (4 * r + s)) 5
theorem msk_tb : ∀ s, s < 4 → ∀ i, i < 20 → (69905 * 2 ^ s).testBit i = decide (i % 4 = s) := by decide +kernel
theorem cnt_20 (f : Nat → Bool) : cntN f 20 = cntN (fun r => f (4 * r + 0)) 5 + cntN (fun r => f (4 * r + 1)) 5 + cntN (fun r => f (4 * r + 2)) 5 + cntN (fun r => f (4 * r + 3)) 5 := by
  obtain ⟨g, hg⟩ : ∃ g : Nat → Nat, ∀ i, (if f i = true then 1 else 0) = g i := ⟨_, fun _ => rfl⟩
  simp only [cntN, hg, Nat.reduceMul, Nat.reduceAdd, Nat.zero_add]
  omega
theorem cnt_tt {k t s : Nat} (ht : t < 4) : cntN (fun r => k.testBit (4 * r + t) && decide ((4 * r + t) % 4 = s)) 5 = if t = s then csN k s else 0 := by
  by_cases e : t = s
  · subst e
    rw [if_pos rfl]
    exact cntN_congr (fun r _ => by rw [show (4 * r + t) % 4 = t by omega]; simp)
  · rw [if_neg e, ← cntN_0 5]
    exact cntN_congr (fun r _ => by rw [show (4 * r + t) % 4 = t by omega]; simp [e])
theorem bc_msk {k s : Nat} (hk : k < 2 ^ 20) (hs : s < 4) : bcI (nI k &&& mskS s) = nI (csN k s) := by
  unfold mskS
  rw [nI_and, bcI_nI (Nat.lt_of_le_of_lt Nat.and_le_left hk)]
  refine congrArg nI ?_
  rw [cntN_congr (g := fun i => k.testBit i && decide (i % 4 = s)) (fun i hi => by rw [Nat.testBit_and, msk_tb s hs i hi]), cnt_20, cnt_tt (by decide), cnt_tt (by decide), cnt_tt (by decide), cnt_tt (by decide)]
  have : s = 0 ∨ s = 1 ∨ s = 2 ∨ s = 3 := by omega
  rcases this with rfl | rfl | rfl | rfl <;> simp
def kS (F : FF) (a b s : Nat) : Nat := if 0 < F 7 s then a else b
theorem rgN_nI {F : FF} {c a b : Nat} (ha : a < 2 ^ 20) (hb : b < 2 ^ 20) (ea : F c 0 = nI a) (eb : F c 1 = nI b) : ∀ s, s ≤ 4 → rgN F c s = nI (smN (fun t => csN (kS F a b t) t) s)
  | 0, _ => rfl
  | s + 1, hs => by
    have key : bcI ((if 0 < F 7 s then F c 0 else F c 1) &&& mskS s) = nI (csN (kS F a b s) s) := by
      unfold kS
      by_cases h7 : 0 < F 7 s
      · rw [if_pos h7, if_pos h7, ea, bc_msk ha (by omega)]
      · rw [if_neg h7, if_neg h7, eb, bc_msk hb (by omega)]
    rw [rgN, rgN_nI ha hb ea eb s (by omega), key, nI_add, smN]
theorem csN_0 {k nr ns s : Nat} (hb : ∀ i, i < 5 → ∀ j, j < 4 → k.testBit (4 * i + j) = true → i < nr ∧ j < ns) (h4 : s < 4) (hs : ns ≤ s) : csN k s = 0 := by
  unfold csN
  rw [← cntN_0 5]
  exact cntN_congr (fun r hr => nob hb hr h4 (Or.inr (by omega)))
theorem roB_nI {F G : FF} {v a b : Nat} (e7 : F 7 = G 4) (ha : a < 2 ^ 20) (hb : b < 2 ^ 20) (ea : G 5 (9 * v + 5) = nI a) (eb : G 5 (9 * v + 6) = nI b) : cntN (roB G v) 20 = smN (fun t => csN (kS F a b t) t) 4 := by
  have h : ∀ k, k < 20 → roB G v k = (kS F a b (k % 4)).testBit k := by
    intro k hk
    unfold roB kS
    rw [← e7, ea, eb]
    by_cases h7 : 0 < F 7 (k % 4)
    · rw [if_pos h7, if_pos h7, hasT_nI (by omega) (by omega)]
    · rw [if_neg h7, if_neg h7, hasT_nI (by omega) (by omega)]
  rw [cntN_congr h, cnt_20]
  have q : ∀ t, t < 4 → cntN (fun r => (kS F a b ((4 * r + t) % 4)).testBit (4 * r + t)) 5 = csN (kS F a b t) t := by
    intro t ht
    unfold csN
    exact cntN_congr (fun r _ => by rw [show (4 * r + t) % 4 = t by omega])
  rw [q 0 (by decide), q 1 (by decide), q 2 (by decide), q 3 (by decide)]
  simp only [smN]
  omega
theorem rg_eq {F G : FF} {c v nr ns : Nat} (e7 : F 7 = G 4) (h4 : ns ≤ 4) (hP : PB (F c) nr ns) (e0 : F c 0 = G 5 (9 * v + 5)) (e1 : F c 1 = G 5 (9 * v + 6)) : rgN F c ns = nI (cntN (roB G v) 20) := by
  obtain ⟨⟨a, ha, ea, ba⟩, b, hb, eb, bb⟩ := hP
  rw [rgN_nI ha hb ea eb ns h4, roB_nI e7 ha hb (e0.symm.trans ea) (e1.symm.trans eb)]
  have := smN_cut (f := fun t => csN (kS F a b t) t) (n := ns) (4 - ns) (fun i h1 h2 => by
    show csN (kS F a b i) i = 0
    unfold kS
    split
    · exact csN_0 ba (by omega) h1
    · exact csN_0 bb (by omega) h1)
  rw [show ns + (4 - ns) = 4 by omega] at this
  rw [this]
/-! wrong -/
theorem cnt_bits (f : Nat → Bool) (n m : Nat) : cntN (bits f n).testBit (n + m) = cntN f n := by
  have h1 : cntN (bits f n).testBit n = cntN f n := cntN_congr (fun i hi => by rw [tb_bits]; simp [hi])
  have h2 : cntN (fun k => (bits f n).testBit (n + k)) m = 0 := by
    rw [← cntN_0 m]
    exact cntN_congr (fun i _ => by rw [tb_bits, show decide (n + i < n) = false from decide_eq_false (by omega)]; rfl)
  rw [cntN_add, h1, h2, Nat.add_zero]
theorem on_few {k nr ns s : Nat} (hk : k < 2 ^ 20) (hb : ∀ i, i < 5 → ∀ j, j < 4 → k.testBit (4 * i + j) = true → i < nr ∧ j < ns) (hr : nr ≤ 5) (hs : s < 4) : onI (nI (bits (ppM (nI k) s) nr)) 20 = nI (csN k s) := by
  have hl := bits_lt (ppM (nI k) s) nr
  have hp := (pow5 nr hr).1
  rw [onI_nI (by omega) 20 (by decide)]
  refine congrArg nI ?_
  have c1 := cnt_bits (ppM (nI k) s) nr (20 - nr)
  rw [show nr + (20 - nr) = 20 by omega] at c1
  have c2 := cntN_cut (f := fun r => k.testBit (4 * r + s)) (n := nr) (5 - nr) (fun i h1 h2 => nob hb (by omega) hs (Or.inl (by omega)))
  rw [show nr + (5 - nr) = 5 by omega] at c2
  unfold csN
  rw [c1, c2]
  exact cntN_congr (fun i hi => ppM_nI hk (by omega))
def wiN (few : Nat → Bool) (s W : Nat) : Nat → Nat
  | 0 => W
  | r + 1 => if few r = true then wiN few s W r ||| 2 ^ (4 * r + s) else wiN few s W r
theorem wiN_tb (few : Nat → Bool) {s : Nat} (hs : s < 4) (W : Nat) : ∀ n i, (wiN few s W n).testBit i = (W.testBit i || (decide (i % 4 = s) && (decide (i / 4 < n) && few (i / 4))))
  | 0, i => by simp [wiN]
  | n + 1, i => by
    have ih := wiN_tb few hs W n i
    rw [wiN]
    by_cases hf : few n = true
    · rw [if_pos hf, Nat.testBit_or, ih, Nat.testBit_two_pow]
      by_cases e : 4 * n + s = i
      · subst e
        rw [show (4 * n + s) % 4 = s by omega, show (4 * n + s) / 4 = n by omega]
        simp [hf]
      · by_cases e1 : i % 4 = s
        · have e2 : i / 4 ≠ n := by omega
          rw [show decide (i / 4 < n) = decide (i / 4 < n + 1) from decide_eq_decide.mpr (by omega)]
          simp [e]
        · simp [e, e1]
    · rw [if_neg hf, ih]
      by_cases e : i / 4 = n
      · rw [e]
        simp [hf]
      · rw [show decide (i / 4 < n) = decide (i / 4 < n + 1) from decide_eq_decide.mpr (by omega)]
theorem wiM_nI {few s W : Nat} (hf : few < 32) : ∀ n, n ≤ 5 → wiM (nI W) few s n = nI (wiN few.testBit s W n)
  | 0, _ => rfl
  | n + 1, hn => by
    have ht : hasT (nI few) (nI n) = few.testBit n := hasT_nI (by omega) (by omega)
    have ih := wiM_nI (few := few) (s := s) (W := W) hf n (by omega)
    rw [wiM, wiN, ih]
    unfold ppr
    by_cases hb : few.testBit n = true
    · rw [if_pos (ht.trans hb), if_pos hb, nI_or]
    · rw [if_neg (fun e => hb (ht.symm.trans e)), if_neg hb]
theorem wg_key {k nr ns s W : Nat} (hk : k < 2 ^ 20) (hb : ∀ i, i < 5 → ∀ j, j < 4 → k.testBit (4 * i + j) = true → i < nr ∧ j < ns) (hr : nr ≤ 5) (hs : s < 4) :
    nI W ||| (nI k &&& mskS s) = nI (W ||| (k &&& 69905 * 2 ^ s)) ∧ wiM (nI W) (bits (ppM (nI k) s) nr) s nr = nI (W ||| (k &&& 69905 * 2 ^ s)) := by
  refine ⟨by unfold mskS; rw [nI_and, nI_or], ?_⟩
  have hl := bits_lt (ppM (nI k) s) nr
  have hp := (pow5 nr hr).1
  rw [wiM_nI (by omega) nr hr]
  refine congrArg nI (Nat.eq_of_testBit_eq (fun i => ?_))
  rw [wiN_tb _ hs, Nat.testBit_or, Nat.testBit_and, tb_bits]
  by_cases h20 : i < 20
  · rw [msk_tb s hs i h20]
    by_cases hm : i % 4 = s
    · have hi : 4 * (i / 4) + s = i := by omega
      by_cases hn : i / 4 < nr
      · rw [ppM_nI hk (by omega), hi]
        simp [hm, hn]
      · have : k.testBit i = false := by
          rw [← hi]
          exact nob hb (by omega) hs (Or.inl hn)
        simp [hn, this]
    · simp [hm]
  · have h0 : k.testBit i = false := Nat.testBit_lt_two_pow (Nat.lt_of_lt_of_le hk (Nat.pow_le_pow_right (by decide) (by omega)))
    have hn : ¬ i / 4 < nr := by omega
    simp [h0, hn]
theorem wg_eq {F G : FF} {nr ns : Nat} (hP : PB (F 19) nr ns) (e0 : F 19 0 = G 5 5) (e1 : F 19 1 = G 5 6) (hr : nr ≤ 5) : ∀ s, s ≤ 4 → ∃ W, W < 2 ^ 20 ∧ wgN F s = nI W ∧ wgM G nr s = nI W
  | 0, _ => ⟨0, by decide, rfl, rfl⟩
  | s + 1, hs => by
    obtain ⟨W, hW, h1, h2⟩ := wg_eq hP e0 e1 hr s (by omega)
    obtain ⟨⟨y, hy, ey, hby⟩, o, ho, eo, hbo⟩ := hP
    have cy : bcI (F 19 0 &&& mskS s) = nI (csN y s) := by rw [ey]; exact bc_msk hy (by omega)
    have co : bcI (F 19 1 &&& mskS s) = nI (csN o s) := by rw [eo]; exact bc_msk ho (by omega)
    have dy : onI (nI (bits (ppM (G 5 5) s) nr)) 20 = nI (csN y s) := by rw [← e0, ey]; exact on_few hy hby hr (by omega)
    have dn : onI (nI (bits (ppM (G 5 6) s) nr)) 20 = nI (csN o s) := by rw [← e1, eo]; exact on_few ho hbo hr (by omega)
    rw [wgN, wgM, h1, h2]
    unfold fewM
    by_cases q : nI (csN y s) ≤ nI (csN o s)
    · refine ⟨W ||| (y &&& 69905 * 2 ^ s), Nat.or_lt_two_pow hW (Nat.lt_of_le_of_lt Nat.and_le_left hy), ?_, ?_⟩
      · rw [if_pos (show bcI (F 19 0 &&& mskS s) ≤ bcI (F 19 1 &&& mskS s) by rw [cy, co]; exact q), ey]
        exact (wg_key hy hby hr (by omega)).1
      · rw [if_pos (show onI (nI (bits (ppM (G 5 5) s) nr)) 20 ≤ onI (nI (bits (ppM (G 5 6) s) nr)) 20 by rw [dy, dn]; exact q), ← e0, ey]
        exact (wg_key hy hby hr (by omega)).2
    · refine ⟨W ||| (o &&& 69905 * 2 ^ s), Nat.or_lt_two_pow hW (Nat.lt_of_le_of_lt Nat.and_le_left ho), ?_, ?_⟩
      · rw [if_neg (show ¬ bcI (F 19 0 &&& mskS s) ≤ bcI (F 19 1 &&& mskS s) by rw [cy, co]; exact q), eo]
        exact (wg_key ho hbo hr (by omega)).1
      · rw [if_neg (show ¬ onI (nI (bits (ppM (G 5 5) s) nr)) 20 ≤ onI (nI (bits (ppM (G 5 6) s) nr)) 20 by rw [dy, dn]; exact q), ← e1, eo]
        exact (wg_key ho hbo hr (by omega)).2
section SIM
variable {F G : FF} {n nr ns h nx sz : Nat}
theorem Sim.sample (S : Sim F G n nr ns h nx sz) (s w : Int32) : smR F nr ns s w = smMR G nr ns s w := by
  unfold smR smMR
  by_cases hc : hasB s ns = true
  · rw [if_pos hc, if_pos hc]
    have h5 := S.1.2.1.2.2.1
    have h4 := S.1.2.1.2.2.2
    obtain ⟨j, hj, rfl⟩ := hasB_of (by omega) hc
    have e7 : F 7 = G 4 := S.2.1.2.1.2.2.2.2.2
    have e0 : F 19 0 = G 5 5 := S.2.1.2.2.1.1
    have e1 : F 19 1 = G 5 6 := S.2.1.2.2.1.2.1
    rw [ix_nI (by omega), S.yes hj, prn_eq S.2.2.2.2.1.1 h5 (by omega), prn_eq S.2.2.2.2.1.2 h5 (by omega), e7, e0, e1]
  · rw [if_neg hc, if_neg hc]
theorem Sim.count (S : Sim F G n nr ns h nx sz) (w : Int32) : ctR F ns w = ctMR G w := by
  have h4 := S.1.2.1.2.2.2
  have hP := S.2.2.2.2.1
  obtain ⟨-, hR, -⟩ := S
  obtain ⟨⟨t1, t2⟩, ⟨r1, r2, e4, e5, e6, e7⟩, ⟨b0, b1, b2, b3, b4⟩, ⟨a1, a2, -⟩, ⟨h1, -⟩, -⟩ := hR
  have q1 := pc_eq hP
  have q2 := rg_eq (F := F) (G := G) (c := 19) (v := 0) e7 h4 hP b0 b1
  unfold ctR ctMR
  rw [q1, q2, t1, r1, r2, b0, b1, b3, b4, a2, h1]
theorem Sim.wrong (S : Sim F G n nr ns h nx sz) (which : Bool) : wgR F ns which = wgMR G nr ns which := by
  have h4 := S.1.2.1.2.2.2
  have h5 := S.1.2.1.2.2.1
  obtain ⟨W, hW, h1, h2⟩ := wg_eq S.2.2.2.2.1 S.2.1.2.2.1.1 S.2.1.2.2.1.2.1 h5 ns h4
  unfold wgR wgMR
  rw [h1, h2, bcI_nI hW, onI_nI (Nat.lt_trans hW (by decide)) 20 (by decide)]
end SIM
