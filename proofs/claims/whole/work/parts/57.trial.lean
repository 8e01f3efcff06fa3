/-! ===== judge, winters: the trial bench, by both ===== -/
theorem up2_off {F : FF} {i j c : Nat} {v : Int32} (h : c ≠ i) : up2 F i j v c = F c := by
  funext k
  exact up2_n _ _ (Or.inl h)
theorem nz_eq {v : Int32} (h : v = 0 ∨ v = 1) : nzI v = 1 - v ∧ (nzI v = 0 ∨ nzI v = 1) := by
  rcases h with rfl | rfl
  · decide
  · decide
theorem BQ.t3 {f f' g g' : Nat → Int32} (B : BQ f g) (h3 : f' 3 = nzI (f 3)) (hf : ∀ k, k < 5 → k ≠ 3 → f' k = f k) (h7 : g' 7 = 1 - g 7) (hg : ∀ k, k < 9 → k ≠ 7 → g' k = g k) : BQ f' g' := by
  obtain ⟨⟨b0, b1, b2, b3, b4⟩, R, z3, z4⟩ := B
  have n3 := nz_eq z3
  refine ⟨⟨?_, ?_, fun r hr => ?_, ?_, ?_⟩, fun r hr => ?_, ?_, ?_⟩
  · rw [hf 0 (by decide) (by decide), hg 5 (by decide) (by decide), b0]
  · rw [hf 1 (by decide) (by decide), hg 6 (by decide) (by decide), b1]
  · rw [hf 2 (by decide) (by decide), hg r (by omega) (by omega), b2 r hr]
  · rw [h3, h7, n3.1, b3]
  · rw [hf 4 (by decide) (by decide), hg 8 (by decide) (by decide), b4]
  · rw [hf 2 (by decide) (by decide)]
    exact R r hr
  · rw [h3]
    exact n3.2
  · rw [hf 4 (by decide) (by decide)]
    exact z4
theorem BQ.t4 {f f' g g' : Nat → Int32} (B : BQ f g) (h4 : f' 4 = nzI (f 4)) (hf : ∀ k, k < 5 → k ≠ 4 → f' k = f k) (h8 : g' 8 = 1 - g 8) (hg : ∀ k, k < 9 → k ≠ 8 → g' k = g k) : BQ f' g' := by
  obtain ⟨⟨b0, b1, b2, b3, b4⟩, R, z3, z4⟩ := B
  have n4 := nz_eq z4
  refine ⟨⟨?_, ?_, fun r hr => ?_, ?_, ?_⟩, fun r hr => ?_, ?_, ?_⟩
  · rw [hf 0 (by decide) (by decide), hg 5 (by decide) (by decide), b0]
  · rw [hf 1 (by decide) (by decide), hg 6 (by decide) (by decide), b1]
  · rw [hf 2 (by decide) (by decide), hg r (by omega) (by omega), b2 r hr]
  · rw [hf 3 (by decide) (by decide), hg 7 (by decide) (by decide), b3]
  · rw [h4, h8, n4.1, b4]
  · rw [hf 2 (by decide) (by decide)]
    exact R r hr
  · rw [hf 3 (by decide) (by decide)]
    exact z3
  · rw [h4]
    exact n4.2
theorem BQ.r0 {f f' g g' : Nat → Int32} {c : Nat} (hc : c < 5) (B : BQ f g) (h2 : f' 2 = setR (f 2) c 0) (hf : ∀ k, k < 5 → k ≠ 2 → f' k = f k) (h7 : g' c = 0) (hg : ∀ k, k < 9 → k ≠ c → g' k = g k) : BQ f' g' := by
  obtain ⟨⟨b0, b1, b2, b3, b4⟩, R, z3, z4⟩ := B
  have e2 : ∀ r, r < 5 → rdg (f' 2) r = if r = c then 0 else rdg (f 2) r := by
    intro r hr
    rw [h2, show (0 : Int32) = nI 0 from rfl, rdg_set _ hc hr (by decide)]
  refine ⟨⟨?_, ?_, fun r hr => ?_, ?_, ?_⟩, fun r hr => ?_, ?_, ?_⟩
  · rw [hf 0 (by decide) (by decide), hg 5 (by decide) (by omega), b0]
  · rw [hf 1 (by decide) (by decide), hg 6 (by decide) (by omega), b1]
  · rw [e2 r hr]
    by_cases e : r = c
    · rw [if_pos e, e, h7]
    · rw [if_neg e, hg r (by omega) e, b2 r hr]
  · rw [hf 3 (by decide) (by decide), hg 7 (by decide) (by omega), b3]
  · rw [hf 4 (by decide) (by decide), hg 8 (by decide) (by omega), b4]
  · rw [e2 r hr]
    by_cases e : r = c
    · rw [if_pos e]
      exact le9_0
    · rw [if_neg e]
      exact R r hr
  · rw [hf 3 (by decide) (by decide)]
    exact z3
  · rw [hf 4 (by decide) (by decide)]
    exact z4
theorem RG.c {F F' : FF} {nr ns : Nat} (h : RG F nr ns) (h4 : F' 4 = F 4) (h7 : F' 7 = F 7) : RG F' nr ns := by
  unfold RG
  rw [h4, h7]
  exact h
def TR (F G : FF) (nr ns : Nat) : Prop := (F 4 = G 1 ∧ F 5 = G 2 ∧ F 6 = G 3 ∧ F 7 = G 4) ∧ RG F nr ns ∧ BQ (F 36) (fun k => G 5 (9 * 1 + k)) ∧ PB (F 36) nr ns
def Z36 (F : FF) : Prop := (F 36 3 = 0 ∨ F 36 3 = 1) ∧ (F 36 4 = 0 ∨ F 36 4 = 1)
def SCF (F F' : FF) : Prop := (∀ i, i ≠ 36 → F' i = F i) ∧ (Z36 F → Z36 F')
def SCG (G G' : FF) : Prop := (∀ i, i ≠ 5 → G' i = G i) ∧ ∀ k, k < 9 → G' 5 k = G 5 k
theorem SCF.rf (F : FF) : SCF F F := ⟨fun _ _ => rfl, fun h => h⟩
theorem SCG.rf (G : FF) : SCG G G := ⟨fun _ _ => rfl, fun _ _ => rfl⟩
theorem SCF.tr {F F' F'' : FF} (h1 : SCF F F') (h2 : SCF F' F'') : SCF F F'' := ⟨fun i hi => (h2.1 i hi).trans (h1.1 i hi), fun h => h2.2 (h1.2 h)⟩
theorem SCG.tr {G G' G'' : FF} (h1 : SCG G G') (h2 : SCG G' G'') : SCG G G'' := ⟨fun i hi => (h2.1 i hi).trans (h1.1 i hi), fun k hk => (h2.2 k hk).trans (h1.2 k hk)⟩
theorem TR.z {F G : FF} {nr ns : Nat} (T : TR F G nr ns) : Z36 F := ⟨T.2.2.1.2.2.1, T.2.2.1.2.2.2⟩
theorem TR.c {F G F' G' : FF} {nr ns : Nat} (T : TR F G nr ns) (hF : ∀ i, i ≠ 36 → F' i = F i) (hG : ∀ i, i ≠ 5 → G' i = G i) (hB : BQ (F' 36) (fun k => G' 5 (9 * 1 + k))) (hP : PB (F' 36) nr ns) : TR F' G' nr ns := by
  obtain ⟨⟨e4, e5, e6, e7⟩, hg, -⟩ := T
  refine ⟨⟨?_, ?_, ?_, ?_⟩, hg.c (hF 4 (by decide)) (hF 7 (by decide)), hB, hP⟩
  · rw [hF 4 (by decide), hG 1 (by decide), e4]
  · rw [hF 5 (by decide), hG 2 (by decide), e5]
  · rw [hF 6 (by decide), hG 3 (by decide), e6]
  · rw [hF 7 (by decide), hG 4 (by decide), e7]
theorem TR.say {F G : FF} {nr ns i j : Nat} (T : TR F G nr ns) (hi : i < nr) (hj : j < ns) (h5 : nr ≤ 5) : yesT F i j = sayM G 1 j i := by
  obtain ⟨⟨e4, e5, e6, e7⟩, hg, ⟨⟨b0, b1, b2, b3, b4⟩, R, -⟩, -⟩ := T
  have b2i : rdg (F 36 2) i = G 5 (9 * 1 + i) := b2 i (by omega)
  have b3' : F 36 3 = G 5 (9 * 1 + 7) := b3
  have b4' : F 36 4 = G 5 (9 * 1 + 8) := b4
  unfold yesT yesAt sayM brM
  rw [sees_eq (hg.1 i hi) (le9_lits (hg.2 j hj)) (R i (by omega)), b2i, b3', b4', e4, e5, e6, e7]
theorem TR.t3 {F G : FF} {nr ns : Nat} (T : TR F G nr ns) : TR (up2 F 36 3 (nzI (F 36 3))) (up2 G 5 16 (1 - G 5 16)) nr ns := by
  refine T.c (fun i hi => up2_off hi) (fun i hi => up2_off hi) ?_ ?_
  · refine BQ.t3 T.2.2.1 (up2_s _ _ _ _) (fun k _ hk => up2_n _ _ (Or.inr hk)) (up2_s _ _ _ _) (fun k _ hk => up2_n _ _ (Or.inr ?_))
    omega
  · exact T.2.2.2
theorem TR.t4 {F G : FF} {nr ns : Nat} (T : TR F G nr ns) : TR (up2 F 36 4 (nzI (F 36 4))) (up2 G 5 17 (1 - G 5 17)) nr ns := by
  refine T.c (fun i hi => up2_off hi) (fun i hi => up2_off hi) ?_ ?_
  · refine BQ.t4 T.2.2.1 (up2_s _ _ _ _) (fun k _ hk => up2_n _ _ (Or.inr hk)) (up2_s _ _ _ _) (fun k _ hk => up2_n _ _ (Or.inr ?_))
    omega
  · exact T.2.2.2
theorem TR.r0 {F G : FF} {nr ns c : Nat} (hc : c < 5) (T : TR F G nr ns) : TR (up2 F 36 2 (setR (F 36 2) c 0)) (up2 G 5 (9 + c) 0) nr ns := by
  refine T.c (fun i hi => up2_off hi) (fun i hi => up2_off hi) ?_ ?_
  · refine BQ.r0 hc T.2.2.1 (up2_s _ _ _ _) (fun k _ hk => up2_n _ _ (Or.inr hk)) (up2_s _ _ _ _) (fun k _ hk => up2_n _ _ (Or.inr ?_))
    omega
  · exact T.2.2.2
theorem TR.rd {F G : FF} {nr ns i j : Nat} (T : TR F G nr ns) (hi : i < nr) (hj : j < ns) (h5 : nr ≤ 5) (h4 : ns ≤ 4) : TR (tkR F 36 i j (yesT F i j)) (rdM G 1 i j (sayM G 1 j i)) nr ns := by
  rw [T.say hi hj h5]
  have := tk_BQ (F := F) (G := G) (b := 36) (v := 1) (y := sayM G 1 j i) hi hj h5 h4 T.2.2.1 T.2.2.2
  exact T.c (fun _ h => tkR_off h) (fun _ h => rdM_off h) this.1 this.2
theorem jd_step {F G : FF} {nr ns : Nat} (T : TR F G nr ns) (h5 : nr ≤ 5) (h4 : ns ≤ 4) (a c : Nat) :
    stB F nr ns a c = tyB G nr ns a c ∧ (stB F nr ns a c = true → TR (stF F nr ns a c) (tyF G nr ns a c) nr ns) ∧ SCF F (stF F nr ns a c) ∧ SCG G (tyF G nr ns a c) := by
  have e7 : F 7 = G 4 := T.1.2.2.2
  unfold stB tyB stF tyF
  by_cases a0 : a = 0
  · subst a0
    rw [if_pos rfl, if_pos rfl, if_pos rfl, if_pos rfl]
    by_cases c0 : c = 0
    · subst c0
      rw [if_pos rfl, show plM 0 = 16 from rfl]
      exact ⟨rfl, fun _ => T.t3, ⟨fun i hi => up2_off hi, fun _ => T.t3.z⟩, fun i hi => up2_off hi, fun k hk => up2_n _ _ (Or.inr (by omega))⟩
    · rw [if_neg c0, show plM c = 17 from if_neg c0]
      by_cases c1 : c = 1
      · subst c1
        rw [if_pos rfl]
        exact ⟨rfl, fun _ => T.t4, ⟨fun i hi => up2_off hi, fun _ => T.t4.z⟩, fun i hi => up2_off hi, fun k hk => up2_n _ _ (Or.inr (by omega))⟩
      · rw [if_neg c1]
        refine ⟨rfl, fun z => ?_, SCF.rf F, fun i hi => up2_off hi, fun k hk => up2_n _ _ (Or.inr (by omega))⟩
        rw [decide_eq_true_eq] at z
        omega
  · rw [if_neg a0, if_neg a0, if_neg a0, if_neg a0]
    by_cases a6 : a = 6
    · subst a6
      rw [if_neg (by decide), if_pos rfl, if_pos rfl, if_neg (by decide), if_pos rfl, if_pos rfl]
      by_cases hc : c < nr
      · obtain ⟨q, hq, eq⟩ := T.2.2.1.2.1 c (by omega)
        have b2 : rdg (F 36 2) c = G 5 (9 + c) := T.2.2.1.1.2.2.1 c (by omega)
        have hz : (0 < G 5 (9 + c)) ↔ ¬ rdg (F 36 2) c = 0 := by
          rw [← b2, eq, show (0 : Int32) = nI 0 from rfl, nI_ltI (by decide) (by omega), nI_eq (by omega) (by decide)]
          omega
        by_cases h0 : rdg (F 36 2) c = 0
        · rw [if_neg (fun z => z.2 h0), if_neg (fun z => hz.mp z.2 h0)]
          refine ⟨?_, fun z => ?_, SCF.rf F, SCG.rf G⟩
          · simp [h0, hz]
          · simp [h0] at z
        · rw [if_pos ⟨hc, h0⟩, if_pos ⟨hc, hz.mpr h0⟩]
          have := T.r0 (c := c) (by omega)
          refine ⟨?_, fun _ => this, ⟨fun i hi => up2_off hi, fun _ => this.z⟩, fun i hi => up2_off hi, fun k hk => up2_n _ _ (Or.inr (by omega))⟩
          simp [h0, hz]
      · rw [if_neg (fun z => hc z.1), if_neg (fun z => hc z.1)]
        refine ⟨?_, fun z => ?_, SCF.rf F, SCG.rf G⟩
        · simp [hc]
        · simp [hc] at z
    · by_cases a5 : a ≤ 5
      · have a6' : a < 6 := by omega
        rw [if_pos a5, if_neg a6, if_pos a5, if_neg a6]
        by_cases hx : a - 1 < nr ∧ c < ns
        · rw [if_pos hx, if_pos (show a < 6 ∧ a - 1 < nr ∧ c < ns from ⟨a6', hx⟩)]
          have := T.rd hx.1 hx.2 h5 h4
          refine ⟨?_, fun _ => this, ⟨fun i hi => tkR_off hi, fun _ => this.z⟩, fun i hi => rdM_off hi, fun k hk => rdM_out (by omega) (Or.inl (by omega))⟩
          rw [T.say hx.1 hx.2 h5, e7]
          simp [a6']
        · rw [if_neg hx, if_neg (show ¬ (a < 6 ∧ a - 1 < nr ∧ c < ns) from fun z => hx z.2)]
          have hf : (decide (a - 1 < nr) && decide (c < ns)) = false := by
            rw [Bool.and_eq_false_iff, decide_eq_false_iff_not, decide_eq_false_iff_not]
            omega
          refine ⟨?_, fun z => ?_, SCF.rf F, SCG.rf G⟩
          · rw [hf]
            simp
          · rw [hf] at z
            simp at z
      · rw [if_neg a5, if_neg a6, if_neg a6, if_neg a5, if_neg a6, if_neg a6, if_neg (show ¬ (a < 6 ∧ a - 1 < nr ∧ c < ns) from fun z => a5 (by omega))]
        refine ⟨?_, fun z => absurd z (by decide), SCF.rf F, SCG.rf G⟩
        rw [show decide (a < 6) = false from decide_eq_false (by omega)]
        rfl
theorem fig_tw (w f : Nat) : fig w (2 * f + 1) = tw2 w f / 10 ∧ fig w (2 * f) = tw2 w f % 10 := by
  unfold fig tw2
  rw [show (100 : Nat) ^ f = 10 ^ (2 * f) by rw [Nat.pow_mul], Nat.pow_succ, ← Nat.div_div_eq_div_mul]
  generalize w / 10 ^ (2 * f) = X
  omega
theorem jd_eq {nr ns w : Nat} (h5 : nr ≤ 5) (h4 : ns ≤ 4) : ∀ (f k : Nat) (F G : FF), TR F G nr ns → (jdN nr ns w f k F).1 = (jdM nr ns w f k G).1 ∧ SCF F (jdN nr ns w f k F).2 ∧ SCG G (jdM nr ns w f k G).2
  | 0, k, F, G, _ => ⟨rfl, SCF.rf F, SCG.rf G⟩
  | f + 1, k, F, G, T => by
    rw [jdN, jdM, (fig_tw w f).1, (fig_tw w f).2]
    obtain ⟨s1, s2, s3, s4⟩ := jd_step T h5 h4 (tw2 w f / 10) (tw2 w f % 10)
    by_cases hb : stB F nr ns (tw2 w f / 10) (tw2 w f % 10) = true
    · rw [if_pos hb, if_pos (s1.symm.trans hb)]
      obtain ⟨i1, i2, i3⟩ := jd_eq h5 h4 f (k + 1) _ _ (s2 hb)
      exact ⟨i1, s3.tr i2, s4.tr i3⟩
    · rw [if_neg hb, if_neg (fun z => hb (s1.trans z))]
      exact ⟨rfl, s3, s4⟩
theorem wi_step {F G : FF} {nr ns : Nat} (T : TR F G nr ns) (h5 : nr ≤ 5) (h4 : ns ≤ 4) (k : Nat) : TR (wiF F nr ns k) (wiMF G nr ns k) nr ns ∧ SCF F (wiF F nr ns k) ∧ SCG G (wiMF G nr ns k) := by
  unfold wiF wiMF
  by_cases k0 : k = 20
  · rw [if_pos k0, if_pos k0]
    exact ⟨T.t3, ⟨fun i hi => up2_off hi, fun _ => T.t3.z⟩, fun i hi => up2_off hi, fun k hk => up2_n _ _ (Or.inr (by omega))⟩
  · rw [if_neg k0, if_neg k0]
    by_cases k1 : k = 21
    · rw [if_pos k1, if_pos k1]
      exact ⟨T.t4, ⟨fun i hi => up2_off hi, fun _ => T.t4.z⟩, fun i hi => up2_off hi, fun k hk => up2_n _ _ (Or.inr (by omega))⟩
    · rw [if_neg k1, if_neg k1]
      by_cases hx : k / 4 < nr ∧ k % 4 < ns
      · rw [if_pos hx, if_pos hx]
        have := T.rd hx.1 hx.2 h5 h4
        exact ⟨this, ⟨fun i hi => tkR_off hi, fun _ => this.z⟩, fun i hi => rdM_off hi, fun k hk => rdM_out (by omega) (Or.inl (by omega))⟩
      · rw [if_neg hx, if_neg hx]
        exact ⟨T, SCF.rf F, SCG.rf G⟩
theorem wn_eq {nr ns : Nat} (h5 : nr ≤ 5) (h4 : ns ≤ 4) : ∀ (n : Nat) (F G : FF) (L : Int64), TR F G nr ns → TR (itN (wnS nr ns) n (F, L)).1 (itN (wmS nr ns) n (G, L)).1 nr ns ∧ (itN (wnS nr ns) n (F, L)).2 = (itN (wmS nr ns) n (G, L)).2 ∧ SCF F (itN (wnS nr ns) n (F, L)).1 ∧ SCG G (itN (wmS nr ns) n (G, L)).1
  | 0, F, G, L, T => ⟨T, rfl, SCF.rf F, SCG.rf G⟩
  | n + 1, F, G, L, T => by
    obtain ⟨s1, s2, s3⟩ := wi_step T h5 h4 (wv (sdN L))
    obtain ⟨i1, i2, i3, i4⟩ := wn_eq h5 h4 n _ _ (sdN L) s1
    have e1 : wnS nr ns (F, L) = (wiF F nr ns (wv (sdN L)), sdN L) := rfl
    have e2 : wmS nr ns (G, L) = (wiMF G nr ns (wv (sdN L)), sdN L) := rfl
    rw [itN, itN, e1, e2]
    exact ⟨i1, i2, s2.tr i3, s3.tr i4⟩
theorem cpB_at (F : FF) (b c k : Nat) (hk : k < 5) : cpB F b c b k = F c k := by
  unfold cpB
  have : k = 0 ∨ k = 1 ∨ k = 2 ∨ k = 3 ∨ k = 4 := by omega
  rcases this with rfl | rfl | rfl | rfl | rfl <;> simp [up2_at]
theorem cpB_off {F : FF} {b c a : Nat} (h : a ≠ b) : cpB F b c a = F a := by
  unfold cpB
  rw [up2_off h, up2_off h, up2_off h, up2_off h, up2_off h]
section SIM
variable {F G : FF} {n nr ns h nx sz : Nat}
theorem Sim.bq (S : Sim F G n nr ns h nx sz) : BQ (F 19) (G 5) := ⟨S.2.1.2.2.1, S.2.2.2.1 19 (by decide) (by decide), (S.1.2.2.2.2.1 19 (by decide) (by decide)).1, (S.1.2.2.2.2.1 19 (by decide) (by decide)).2⟩
theorem Sim.tr (S : Sim F G n nr ns h nx sz) : TR (cpB F 36 19) (lyM G) nr ns ∧ SCF F (cpB F 36 19) ∧ SCG G (lyM G) := by
  have hB := S.bq
  have hP := S.2.2.2.2.1
  obtain ⟨-, -, e4, e5, e6, e7⟩ := S.2.1.2.1
  have off : ∀ i, i ≠ 36 → cpB F 36 19 i = F i := fun i hi => cpB_off hi
  have go : ∀ i, i ≠ 5 → lyM G i = G i := fun i hi => by
    unfold lyM upF
    rw [if_neg hi]
  have g5 : ∀ k, lyM G 5 k = ovl (G 5) 9 (G 5) 9 k := fun k => rfl
  have B36 : BQ (cpB F 36 19 36) (fun k => lyM G 5 (9 * 1 + k)) := hB.c (fun k hk => cpB_at F 36 19 k hk) (fun k hk => by
    show lyM G 5 (9 * 1 + k) = _
    rw [g5]
    unfold ovl
    rw [if_pos (by omega), show 9 * 1 + k - 9 = k by omega])
  refine ⟨⟨⟨?_, ?_, ?_, ?_⟩, S.2.2.1.c (off 4 (by decide)) (off 7 (by decide)), B36, hP.c (fun k hk => cpB_at F 36 19 k hk)⟩, ⟨off, fun _ => ⟨B36.2.2.1, B36.2.2.2⟩⟩, go, fun k hk => ?_⟩
  · rw [off 4 (by decide), go 1 (by decide), e4]
  · rw [off 5 (by decide), go 2 (by decide), e5]
  · rw [off 6 (by decide), go 3 (by decide), e6]
  · rw [off 7 (by decide), go 4 (by decide), e7]
  · rw [g5]
    unfold ovl
    rw [if_neg (by omega)]
theorem Sim.judge (S : Sim F G n nr ns h nx sz) (a row : Int32) : jdR F nr ns a row = jdMR G nr ns a row ∧ SCF F (jdF F nr ns a row) ∧ SCG G (jdMF G nr ns a row) := by
  unfold jdR jdMR jdF jdMF
  by_cases ho : jdOk a row = true
  · rw [if_pos ho, if_pos ho, if_pos ho, if_pos ho]
    obtain ⟨t1, t2, t3⟩ := S.tr
    obtain ⟨j1, j2, j3⟩ := jd_eq (w := ix row) S.1.2.1.2.2.1 S.1.2.1.2.2.2 (ix a) 0 _ _ t1
    exact ⟨j1, t2.tr j2, t3.tr j3⟩
  · rw [if_neg ho, if_neg ho, if_neg ho, if_neg ho]
    exact ⟨rfl, SCF.rf F, SCG.rf G⟩
theorem Sim.winters (S : Sim F G n nr ns h nx sz) (L : Int64) (m : Int32) : wnR F L nr ns m = wmR G L nr ns m ∧ (wnV F L nr ns m).2 = (wmV G L nr ns m).2 ∧ SCF F (wnV F L nr ns m).1 ∧ SCG G (wmV G L nr ns m).1 := by
  unfold wnR wmR
  by_cases ho : wnOk m = true
  · rw [if_pos ho, if_pos ho]
    unfold wnV wmV
    rw [if_pos ho, if_pos ho]
    unfold wnN wmN
    obtain ⟨t1, t2, t3⟩ := S.tr
    obtain ⟨j1, j2, j3, j4⟩ := wn_eq S.1.2.1.2.2.1 S.1.2.1.2.2.2 (ix m) _ _ L t1
    exact ⟨rg_eq (v := 1) j1.1.2.2.2 S.1.2.1.2.2.2 j1.2.2.2 j1.2.2.1.1.1 j1.2.2.1.1.2.1, j2, t2.tr j3, t3.tr j4⟩
  · rw [if_neg ho, if_neg ho]
    unfold wnV wmV
    rw [if_neg ho, if_neg ho]
    exact ⟨rfl, rfl, SCF.rf F, SCG.rf G⟩
end SIM
