/-! ===== keep, again, fault, room; the beginning ===== -/
/-- rows of the model that no answer reads -/
def FrG (G G' : FF) : Prop := (∀ i, i ≠ 0 → i ≠ 6 → i ≠ 7 → G' i = G i) ∧ ∀ k, k ≠ 9 → k ≠ 10 → k ≠ 13 → k ≠ 14 → G' 0 k = G 0 k
theorem FrG.rf (G : FF) : FrG G G := ⟨fun _ _ _ _ => rfl, fun _ _ _ _ _ => rfl⟩
theorem FrG.tr {G G' G'' : FF} (h1 : FrG G G') (h2 : FrG G' G'') : FrG G G'' := ⟨fun i a b c => (h2.1 i a b c).trans (h1.1 i a b c), fun k a b c d => (h2.2 k a b c d).trans (h1.2 k a b c d)⟩
theorem FrG.u0 {G G' : FF} {k : Nat} {v : Int32} (h : FrG G G') (hk : k = 9 ∨ k = 10 ∨ k = 13 ∨ k = 14) : FrG G (up2 G' 0 k v) :=
  h.tr ⟨fun i a _ _ => up2_off a, fun j a b c d => up2_n _ _ (Or.inr (by omega))⟩
theorem FrG.u6 {G G' : FF} {k : Nat} {v : Int32} (h : FrG G G') : FrG G (up2 G' 6 k v) := h.tr ⟨fun i _ a _ => up2_off a, fun j _ _ _ _ => up2_n _ _ (Or.inl (by decide))⟩
theorem FrG.u7 {G G' : FF} {k : Nat} {v : Int32} (h : FrG G G') : FrG G (up2 G' 7 k v) := h.tr ⟨fun i _ _ a => up2_off a, fun j _ _ _ _ => up2_n _ _ (Or.inl (by decide))⟩
theorem FrG.fig {G G' : FF} {n : Nat} {lo hi : Int32} (h : FrG G G') : FrG G (figF G' n lo hi) := by
  unfold figF
  split
  · exact h.u0 (by omega)
  · exact h.u0 (by omega)
theorem FrG.rd1 {G G' : FF} (h : FrG G G') : FrG G (rd1 G') := h.u0 (by omega)
theorem FrG.stp {G G' : FF} {n : Nat} (h : FrG G G') : FrG G (rtS G' n) := by
  unfold rtS
  split
  · exact ((((h.rd1.fig).u6.fig).u6.fig).u6).u0 (by omega)
  · split
    · exact ((h.rd1.fig).u7).u0 (by omega)
    · exact h.u0 (by omega)
theorem rtN_fr {G : FF} {n : Nat} : ∀ (f : Nat) (G' : FF), FrG G G' → FrG G (rtN n f G')
  | 0, _, h => h
  | f + 1, G', h => by
    rw [rtN]
    split
    · exact rtN_fr f _ h.stp
    · exact h
theorem rt0_fr (G : FF) : FrG G (rt0 G) := ((((FrG.rf G).u0 (by omega)).u0 (by omega)).u0 (by omega)).u0 (by omega)
theorem rtF1_fr (G : FF) (n : Nat) : FrG G (rtF1 G n) := by
  unfold rtF1
  split
  · exact rtN_fr 40 _ ((rt0_fr G).u0 (by omega))
  · exact rt0_fr G
theorem addR_off {F : FF} {g : Nat → Int32} {n j r c : Nat} (h3 : c ≠ 3) (h4 : c ≠ 4) (h5 : c ≠ 5) (h6 : c ≠ 6) : addR F g n j r c = F c := by
  unfold addR
  rw [up2_off h3, up2_off h6, up2_off h5, up2_off h4]
theorem makeN_off {g : Nat → Int32} {n c : Nat} (h3 : c ≠ 3) (h4 : c ≠ 4) (h5 : c ≠ 5) (h6 : c ≠ 6) (h7 : c ≠ 7) : ∀ (f j r s : Nat) (F : FF), makeN g n f j r s F c = F c
  | 0, _, _, _, _ => rfl
  | f + 1, j, r, s, F => by
    rw [makeN]
    split
    · split
      · split
        · rw [makeN_off h3 h4 h5 h6 h7 f, addR_off h3 h4 h5 h6]
        · exact makeN_off h3 h4 h5 h6 h7 f _ _ _ _
      · split
        · rw [makeN_off h3 h4 h5 h6 h7 f]
          unfold addS
          rw [up2_off h3, up2_off h7]
        · exact makeN_off h3 h4 h5 h6 h7 f _ _ _ _
    · rfl
section SIM
variable {F G F' G' : FF} {n nr ns h nx sz : Nat}
theorem Sim.fr (S : Sim F G n nr ns h nx sz) (hG : FrG G G') : Sim F G' n nr ns h nx sz :=
  S.scr (fun _ _ _ _ => rfl) S.pieces.2.2.2.2.2.2 (fun i a _ b c => hG.1 i a b c) hG.2 (fun k _ => by rw [hG.1 5 (by decide) (by decide) (by decide)])
theorem par_0 (S : Sim F G n nr ns h nx sz) : faultN (F 2) n = rtR1 G n ∧ (faultN (F 2) n = -9 → ∃ r' s', r' ≤ 5 ∧ s' ≤ 4 ∧ rtF1 G n 0 9 = nI r' ∧ rtF1 G n 0 10 = nI s' ∧ MK (makeN (F 2) n 36 1 0 0 (up2 (up2 F 3 4 0) 3 5 0)) (rtF1 G n) r' s' (F 4) (F 5) (F 6) (F 7)) := by
  have hn := S.1.1.2
  have e8 : F 2 = G 8 := S.2.1.1.2
  unfold faultN rtR1 rtF1 latN
  by_cases h0 : ¬ n = 0 ∧ G 8 0 = 69
  · rw [if_pos (show 0 < n by omega), if_pos h0, if_pos (show F 2 0 = 69 by rw [e8]; exact h0.2), if_pos h0]
    have P : PS (up2 (rt0 G) 0 13 1) (F 2) 1 0 0 := by
      refine ⟨?_, by decide, ?_, ?_, ?_, ?_⟩
      · rw [up2_s]; rfl
      · unfold rt0
        rw [up2_n _ _ (Or.inr (by decide)), up2_n _ _ (Or.inr (by decide)), up2_n _ _ (Or.inr (by decide)), up2_s]
      · unfold rt0
        rw [up2_n _ _ (Or.inr (by decide)), up2_n _ _ (Or.inr (by decide)), up2_s]
        rfl
      · unfold rt0
        rw [up2_n _ _ (Or.inr (by decide)), up2_s]
        rfl
      · rw [e8]
        rfl
    have M : MK (up2 (up2 F 3 4 0) 3 5 0) (up2 (rt0 G) 0 13 1) 0 0 (F 4) (F 5) (F 6) (F 7) := by
      refine ⟨⟨?_, ?_⟩, ⟨?_, ?_, ?_, ?_⟩, fun i hi => by omega, fun i hi => by omega⟩
      · rw [up2_n _ _ (Or.inr (by decide)), up2_s]
        rfl
      · rw [up2_s]
        rfl
      · rw [ovl_z0]
        rfl
      · rw [ovl_z0]
        rfl
      · rw [ovl_z0]
        rfl
      · rw [ovl_z0]
        rfl
    obtain ⟨q1, q2⟩ := scan_eq (g := F 2) (n := n) hn 36 1 0 0 _ _ P (by omega) (by decide) (by decide) M
    exact ⟨q1.symm, q2⟩
  · have hx : ¬ (if 0 < n then F 2 0 else 0) = 69 := by
      by_cases hp : 0 < n
      · rw [if_pos hp, e8]
        exact fun z => h0 ⟨by omega, z⟩
      · rw [if_neg hp]
        decide
    rw [if_neg hx, if_neg h0]
    exact ⟨rfl, fun z => absurd z (by decide)⟩
theorem Sim.fault (S : Sim F G n nr ns h nx sz) : faultN (F 2) n = rtR1 G n ∧ Sim F (rtF1 G n) n nr ns h nx sz := ⟨(par_0 S).1, S.fr (rtF1_fr G n)⟩
theorem rdg0 : ∀ r, r < 5 → rdg 0 r = 0 := by decide
theorem clrB_at (F : FF) (b : Nat) : clrB F b b 0 = 0 ∧ clrB F b b 1 = 0 ∧ clrB F b b 2 = 0 ∧ clrB F b b 3 = 1 ∧ clrB F b b 4 = 1 := by
  unfold clrB
  refine ⟨?_, ?_, ?_, ?_, ?_⟩ <;> simp [up2_at]
theorem clrB_off {F : FF} {b c : Nat} (h : c ≠ b) : clrB F b c = F c := by
  unfold clrB
  rw [up2_off h, up2_off h, up2_off h, up2_off h, up2_off h]
theorem clr_BQ {f g : Nat → Int32} (h0 : f 0 = 0) (h1 : f 1 = 0) (h2 : f 2 = 0) (h3 : f 3 = 1) (h4 : f 4 = 1) (hg : ∀ k, k < 7 → g k = 0) (g7 : g 7 = 1) (g8 : g 8 = 1) (nr ns : Nat) : BQ f g ∧ PB f nr ns := by
  refine ⟨⟨⟨by rw [h0, hg 5 (by decide)], by rw [h1, hg 6 (by decide)], fun r hr => by rw [h2, rdg0 r hr, hg r (by omega)], by rw [h3, g7], by rw [h4, g8]⟩, fun r hr => by rw [h2, rdg0 r hr]; exact le9_0, Or.inr h3, Or.inr h4⟩, ?_⟩
  unfold PB
  rw [h0, h1]
  exact ⟨PM_0 nr ns, PM_0 nr ns⟩
theorem Sim.room (S : Sim F G n nr ns h nx sz) : (if faultN (F 2) n = -9 then 10 * roomF F n 3 4 + roomF F n 3 5 else -3) = (if rtR1 G n = -9 then 10 * rtF1 G n 0 9 + rtF1 G n 0 10 else -3) ∧
    ∃ nr' ns' sz', Sim (if faultN (F 2) n = -9 then roomF F n else F) (if rtR1 G n = -9 then rmE (rtF1 G n) (ix (rtF1 G n 0 9)) (ix (rtF1 G n 0 10)) else rtF1 G n) n nr' ns' h nx sz' := by
  obtain ⟨q1, q2⟩ := par_0 S
  have fr := rtF1_fr G n
  rw [← q1]
  by_cases h9 : faultN (F 2) n = -9
  · rw [if_pos h9, if_pos h9, if_pos h9, if_pos h9]
    obtain ⟨r', s', hr, hs, c9, c10, ⟨m1, m2⟩, ⟨m4, m5, m6, m7⟩, l1, l2⟩ := q2 h9
    obtain ⟨p1, p2, p3, p4, p5, p6, p7⟩ := S.pieces
    obtain ⟨-, ⟨-, -, e4, e5, e6, e7⟩, -⟩ := p2
    have mo : ∀ c, c ≠ 3 → c ≠ 4 → c ≠ 5 → c ≠ 6 → c ≠ 7 → makeN (F 2) n 36 1 0 0 (up2 (up2 F 3 4 0) 3 5 0) c = F c := fun c h3 h4 h5 h6 h7 => by
      rw [makeN_off h3 h4 h5 h6 h7, up2_off h3, up2_off h3]
    unfold roomF
    generalize makeN (F 2) n 36 1 0 0 (up2 (up2 F 3 4 0) 3 5 0) = M at *
    rw [c9, c10, ix_nI (show r' < 100 by omega), ix_nI (show s' < 100 by omega)]
    have c9' : rtF1 G n 0 9 = nI r' := c9
    generalize rtF1 G n = H at *
    obtain ⟨X, hX⟩ : ∃ X, X = up2 (up2 (up2 (clrB M 19) 8 2 0) 16 0 0) 16 1 0 := ⟨_, rfl⟩
    obtain ⟨Y, hY⟩ : ∃ Y, Y = rmE H r' s' := ⟨_, rfl⟩
    rw [← hX, ← hY]
    have xo : ∀ c, c ≠ 8 → c ≠ 16 → c ≠ 19 → X c = M c := fun c h1 h2 h3 => by
      rw [hX, up2_off h2, up2_off h2, up2_off h1, clrB_off h3]
    have xf : ∀ c, c ≠ 8 → c ≠ 16 → c ≠ 19 → c ≠ 3 → c ≠ 4 → c ≠ 5 → c ≠ 6 → c ≠ 7 → X c = F c := fun c h1 h2 h3 a b d e f => by rw [xo c h1 h2 h3, mo c a b d e f]
    have x19 : ∀ k, X 19 k = clrB M 19 19 k := fun k => by
      rw [hX, up2_n _ _ (Or.inl (by decide)), up2_n _ _ (Or.inl (by decide)), up2_n _ _ (Or.inl (by decide))]
    have x81 : X 8 1 = F 8 1 := by
      rw [hX, up2_n _ _ (Or.inl (by decide)), up2_n _ _ (Or.inl (by decide)), up2_n _ _ (Or.inr (by decide)), clrB_off (by decide), mo 8 (by decide) (by decide) (by decide) (by decide) (by decide)]
    have x82 : X 8 2 = 0 := by
      rw [hX, up2_n _ _ (Or.inl (by decide)), up2_n _ _ (Or.inl (by decide)), up2_s]
    have x16 : X 16 = upd (upd (F 16) 0 0) 1 0 := by
      rw [hX, up2_cell, up2_cell, up2_off (by decide), clrB_off (by decide), mo 16 (by decide) (by decide) (by decide) (by decide) (by decide)]
    have y0 : ∀ k, k ≠ 0 → k ≠ 1 → k ≠ 15 → Y 0 k = H 0 k := fun k h1 h2 h3 => by
      rw [hY]
      unfold rmE
      rw [up2_n _ _ (Or.inl (by decide)), up2_n _ _ (Or.inl (by decide)), up2_n _ _ (Or.inr h3)]
      show rmA H 0 k = H 0 k
      unfold rmA
      rw [up2_n _ _ (Or.inr h2), up2_n _ _ (Or.inr h1)]
    have y00 : Y 0 0 = nI r' := by rw [hY, ← c9]; rfl
    have y01 : Y 0 1 = nI s' := by rw [hY, ← c10]; rfl
    have y15 : Y 0 15 = 0 := by rw [hY]; rfl
    have y1 : Y 1 = ovl (H 1) 0 (fun r => H 6 (3 * r)) r' := by rw [hY]; rfl
    have y2 : Y 2 = ovl (H 2) 0 (fun r => H 6 (3 * r + 1)) r' := by rw [hY]; rfl
    have y3 : Y 3 = ovl (H 3) 0 (fun r => H 6 (3 * r + 2)) r' := by rw [hY]; rfl
    have y4 : Y 4 = ovl (H 4) 0 (H 7) s' := by rw [hY]; rfl
    have y5 : Y 5 = ovl (H 5) 0 nowN 9 := by rw [hY]; rfl
    have y14 : Y 14 = upd (upd (H 14) 0 0) 1 0 := by rw [hY]; rfl
    have yo : ∀ c, c = 8 ∨ c = 9 ∨ c = 10 ∨ c = 11 ∨ c = 12 ∨ c = 13 ∨ c = 15 → Y c = H c := fun c hc => by
      rw [hY]
      rcases hc with rfl | rfl | rfl | rfl | rfl | rfl | rfl <;> rfl
    have hH : ∀ c, c ≠ 0 → c ≠ 6 → c ≠ 7 → H c = G c := fr.1
    have yH : ∀ c, c = 8 ∨ c = 9 ∨ c = 10 ∨ c = 11 ∨ c = 12 ∨ c = 13 ∨ c = 15 → Y c = G c := fun c hc => by rw [yo c hc, hH c (by omega) (by omega) (by omega)]
    have y0G : ∀ k, k = 12 ∨ k = 16 ∨ k = 18 → Y 0 k = G 0 k := fun k hk => by rw [y0 k (by omega) (by omega) (by omega), fr.2 k (by omega) (by omega) (by omega) (by omega)]
    have x34 : X 3 4 = nI r' := by rw [xo 3 (by decide) (by decide) (by decide), m1]
    have x35 : X 3 5 = nI s' := by rw [xo 3 (by decide) (by decide) (by decide), m2]
    obtain ⟨⟨a1, a2, a3, a4⟩, ⟨a5, a6⟩, a7, a8⟩ := p4
    have k16 : ∀ j, j < 2 → X 16 j = 0 := fun j hj => by
      rw [x16]
      unfold upd
      by_cases e : j = 1
      · rw [if_pos e]
      · rw [if_neg e, if_pos (by omega)]
    refine ⟨by rw [x34, x35], r', s', 0, Sim.of ?_ ⟨⟨x34, x35, hr, hs⟩, ⟨by rw [x34, y00], by rw [x35, y01], ?_, ?_, ?_, ?_⟩, ?_, ?_⟩ ?_ ⟨⟨by rw [x81, a1], by rw [x82]; rfl, a3, by decide⟩, ⟨by rw [x81, y0G 16 (by omega), a5], by rw [x82, y15]⟩, fun j hj => ?_, fun t h1 h2 => by omega⟩ ?_ ⟨fun j hj => Or.inl (k16 j hj), ?_, fun j hj => ?_, fun j hj hk => ?_⟩ ?_⟩
    · exact p1.c (xf 1 (by decide) (by decide) (by decide) (by decide) (by decide) (by decide) (by decide) (by decide)) (xf 2 (by decide) (by decide) (by decide) (by decide) (by decide) (by decide) (by decide) (by decide)) (y0G 12 (by omega)) (yH 8 (by omega))
    · rw [xo 4 (by decide) (by decide) (by decide), m4, y1, e4, hH 1 (by decide) (by decide) (by decide)]
    · rw [xo 5 (by decide) (by decide) (by decide), m5, y2, e5, hH 2 (by decide) (by decide) (by decide)]
    · rw [xo 6 (by decide) (by decide) (by decide), m6, y3, e6, hH 3 (by decide) (by decide) (by decide)]
    · rw [xo 7 (by decide) (by decide) (by decide), m7, y4, e7, hH 4 (by decide) (by decide) (by decide)]
    · rw [xo 4 (by decide) (by decide) (by decide)]
      exact l1
    · rw [xo 7 (by decide) (by decide) (by decide)]
      exact l2
    · obtain ⟨z0, z1, z2, z3, z4⟩ := clrB_at M 19
      refine clr_BQ (by rw [x19, z0]) (by rw [x19, z1]) (by rw [x19, z2]) (by rw [x19, z3]) (by rw [x19, z4]) (fun k hk => ?_) ?_ ?_ r' s'
      · rw [y5]
        unfold ovl nowN
        rw [if_pos (by omega), if_pos (by omega)]
      · rw [y5]
        rfl
      · rw [y5]
        rfl
    · rw [xf (j + 20) (by omega) (by omega) (by omega) (by omega) (by omega) (by omega) (by omega) (by omega)]
      exact a7 j hj
    · exact p5.c (xf 10 (by decide) (by decide) (by decide) (by decide) (by decide) (by decide) (by decide) (by decide)) (xf 11 (by decide) (by decide) (by decide) (by decide) (by decide) (by decide) (by decide) (by decide)) (xf 12 (by decide) (by decide) (by decide) (by decide) (by decide) (by decide) (by decide) (by decide)) (xf 13 (by decide) (by decide) (by decide) (by decide) (by decide) (by decide) (by decide) (by decide)) (xf 14 (by decide) (by decide) (by decide) (by decide) (by decide) (by decide) (by decide) (by decide)) (y0G 18 (by omega)) (yH 10 (by omega)) (yH 11 (by omega)) (yH 12 (by omega)) (yH 13 (by omega))
    · rw [x16, y14, p6.2.1, hH 14 (by decide) (by decide) (by decide)]
    · rw [xf (j + 34) (by omega) (by omega) (by omega) (by omega) (by omega) (by omega) (by omega) (by omega)]
      exact p6.2.2.1 j hj
    · rw [k16 j hj] at hk
      exact absurd hk (by decide)
    · unfold Z36
      rw [xf 36 (by decide) (by decide) (by decide) (by decide) (by decide) (by decide) (by decide) (by decide)]
      exact p7
  · rw [if_neg h9, if_neg h9, if_neg h9, if_neg h9]
    exact ⟨rfl, nr, ns, sz, S.fr fr⟩
/-- the beginning -/
theorem Sim.begin {f0 g0 : FF} (hf : ∀ b, b < 19 → ∀ k, f0 b k = 0) (hb : ∀ b, 19 ≤ b → b < 37 → ∀ k, k < 5 → f0 b k = if k < 3 then 0 else 1) (hg : ∀ b k, g0 b k = if b = 5 ∧ (k = 7 ∨ k = 8) then 1 else 0) : Sim f0 g0 0 0 0 0 0 0 := by
  have hf' : ∀ b, b < 19 → f0 b = fun _ => 0 := fun b hb => funext (fun k => hf b hb k)
  have hg' : ∀ b, b ≠ 5 → g0 b = fun _ => 0 := fun b hb => funext (fun k => by rw [hg, if_neg (fun z => hb z.1)])
  have hg0 : ∀ b k, b ≠ 5 → g0 b k = 0 := fun b k hb => by rw [hg, if_neg (fun z => hb z.1)]
  have bF : ∀ b, 19 ≤ b → b < 37 → BF (f0 b) := by
    intro b h1 h2
    refine ⟨fun r hr => ?_, Or.inr (by rw [hb b h1 h2 3 (by decide)]; rfl), Or.inr (by rw [hb b h1 h2 4 (by decide)]; rfl)⟩
    rw [hb b h1 h2 2 (by decide), if_pos (by decide), rdg0 r hr]
    exact le9_0
  refine Sim.of ⟨⟨?_, by decide⟩, ?_, ?_⟩ ⟨⟨?_, ?_, by decide, by decide⟩, ⟨?_, ?_, ?_, ?_, ?_, ?_⟩, ?_, ?_⟩ ?_ ⟨⟨?_, ?_, by decide, by decide⟩, ⟨?_, ?_⟩, fun j hj => bF _ (by omega) (by omega), fun t h1 h2 => by omega⟩ ⟨⟨?_, by decide, fun j hj => ⟨Or.inl ?_, Or.inl ?_⟩⟩, ?_, ?_, ?_, ?_, ?_⟩ ⟨fun j hj => Or.inl ?_, ?_, fun j hj => bF _ (by omega) (by omega), fun j hj hk => ?_⟩ (bF 36 (by decide) (by decide)).2
  · rw [hf 1 (by decide)]; rfl
  · rw [hf 1 (by decide), hg0 _ _ (by decide)]
  · rw [hf' 2 (by decide), hg' 8 (by decide)]
  · rw [hf 3 (by decide)]; rfl
  · rw [hf 3 (by decide)]; rfl
  · rw [hf 3 (by decide), hg0 _ _ (by decide)]
  · rw [hf 3 (by decide), hg0 _ _ (by decide)]
  · rw [hf' 4 (by decide), hg' 1 (by decide)]
  · rw [hf' 5 (by decide), hg' 2 (by decide)]
  · rw [hf' 6 (by decide), hg' 3 (by decide)]
  · rw [hf' 7 (by decide), hg' 4 (by decide)]
  · intro i hi; omega
  · intro i hi; omega
  · exact clr_BQ (hb 19 (by decide) (by decide) 0 (by decide)) (hb 19 (by decide) (by decide) 1 (by decide)) (hb 19 (by decide) (by decide) 2 (by decide)) (hb 19 (by decide) (by decide) 3 (by decide)) (hb 19 (by decide) (by decide) 4 (by decide)) (fun k hk => by rw [hg, if_neg (by omega)]) (hg 5 7) (hg 5 8) 0 0
  · rw [hf 8 (by decide)]; rfl
  · rw [hf 8 (by decide)]; rfl
  · rw [hf 8 (by decide), hg0 _ _ (by decide)]
  · rw [hf 8 (by decide), hg0 _ _ (by decide)]
  · rw [hf 10 (by decide)]; rfl
  · exact hf 13 (by decide) j
  · exact hf 14 (by decide) j
  · rw [hf 10 (by decide), hg0 _ _ (by decide)]
  · rw [hf' 11 (by decide), hg' 10 (by decide)]
  · rw [hf' 12 (by decide), hg' 11 (by decide)]
  · rw [hf' 13 (by decide), hg' 12 (by decide)]
  · rw [hf' 14 (by decide), hg' 13 (by decide)]
  · exact hf 16 (by decide) j
  · rw [hf' 16 (by decide), hg' 14 (by decide)]
  · rw [hf 16 (by decide)] at hk
    exact absurd hk (by decide)
theorem Sim.keep (S : Sim F G n nr ns h nx sz) (s : Int32) : kpR F s = kpMR G s ∧ Sim (kpF F s) (kpMF G s) n nr ns h nx sz := by
  obtain ⟨p1, p2, p3, p4, p5, p6, p7⟩ := S.pieces
  unfold kpR kpMR kpF kpMF
  by_cases hc : hasB s 2 = true
  · rw [if_pos hc, if_pos hc, if_pos hc, if_pos hc]
    obtain ⟨j, hj, rfl⟩ := hasB_of (by decide) hc
    rw [ix_nI (show j < 100 by omega)]
    refine ⟨by rw [pc_eq p3.2, p3.1.1.1, p3.1.1.2.1], ?_⟩
    have fo : ∀ c, c ≠ 16 → c ≠ j + 34 → up2 (cpB F (j + 34) 19) 16 j 1 c = F c := fun c h1 h2 => by rw [up2_off h1, cpB_off h2]
    have fa : ∀ k, k < 5 → up2 (cpB F (j + 34) 19) 16 j 1 (j + 34) k = F 19 k := fun k hk => by rw [up2_n _ _ (Or.inl (by omega)), cpB_at _ _ _ _ hk]
    have f16 : up2 (cpB F (j + 34) 19) 16 j 1 16 = upd (F 16) j 1 := by rw [up2_cell, cpB_off (by omega)]
    have go : ∀ c, c ≠ 14 → c ≠ 15 → upF (up2 G 14 j 1) 15 (ovl (G 15) (9 * j) (G 5) 9) c = G c := fun c h1 h2 => by
      unfold upF
      rw [if_neg h2, up2_off h1]
    have g14 : upF (up2 G 14 j 1) 15 (ovl (G 15) (9 * j) (G 5) 9) 14 = upd (G 14) j 1 := by
      unfold upF
      rw [if_neg (by decide), up2_cell]
    have g15 : ∀ k, upF (up2 G 14 j 1) 15 (ovl (G 15) (9 * j) (G 5) 9) 15 k = ovl (G 15) (9 * j) (G 5) 9 k := fun k => by
      unfold upF
      rw [if_pos rfl]
    have g0 : ∀ k, upF (up2 G 14 j 1) 15 (ovl (G 15) (9 * j) (G 5) 9) 0 k = G 0 k := fun k => by rw [go 0 (by decide) (by decide)]
    refine Sim.of ?_ ?_ ?_ ?_ ?_ ⟨fun i hi => ?_, ?_, fun i hi => ?_, fun i hi hk => ?_⟩ ?_
    · exact p1.c (fo 1 (by decide) (by omega)) (fo 2 (by decide) (by omega)) (g0 12) (go 8 (by decide) (by decide))
    · exact p2.c (fo 3 (by decide) (by omega)) (fo 4 (by decide) (by omega)) (fo 5 (by decide) (by omega)) (fo 6 (by decide) (by omega)) (fo 7 (by decide) (by omega)) (g0 0) (g0 1) (go 1 (by decide) (by decide)) (go 2 (by decide) (by decide)) (go 3 (by decide) (by decide)) (go 4 (by decide) (by decide))
    · exact p3.c (fo 19 (by decide) (by omega)) (fun k _ => by rw [go 5 (by decide) (by decide)])
    · exact p4.c (fo 8 (by decide) (by omega)) (fun i hi => fo _ (by omega) (by omega)) (g0 16) (g0 15) (go 9 (by decide) (by decide))
    · exact p5.c (fo 10 (by decide) (by omega)) (fo 11 (by decide) (by omega)) (fo 12 (by decide) (by omega)) (fo 13 (by decide) (by omega)) (fo 14 (by decide) (by omega)) (g0 18) (go 10 (by decide) (by decide)) (go 11 (by decide) (by decide)) (go 12 (by decide) (by decide)) (go 13 (by decide) (by decide))
    · rw [f16]
      unfold upd
      split
      · exact Or.inr rfl
      · exact p6.1 i hi
    · rw [f16, g14, p6.2.1]
    · by_cases e : i = j
      · rw [e]
        exact BF.c p3.1.2 fa
      · rw [fo _ (by omega) (by omega)]
        exact p6.2.2.1 i hi
    · by_cases e : i = j
      · rw [e]
        refine BL.c (f := F 19) (g := G 5) ⟨p3.2, p3.1.1⟩ fa (fun k hk => ?_)
        show upF (up2 G 14 j 1) 15 (ovl (G 15) (9 * j) (G 5) 9) 15 (9 * j + k) = G 5 k
        rw [g15]
        unfold ovl
        rw [if_pos (by omega), show 9 * j + k - 9 * j = k by omega]
      · rw [f16] at hk
        unfold upd at hk
        rw [if_neg e] at hk
        rw [fo _ (by omega) (by omega)]
        refine (p6.2.2.2 i hi hk).c (fun _ _ => rfl) (fun k hk => ?_)
        show upF (up2 G 14 j 1) 15 (ovl (G 15) (9 * j) (G 5) 9) 15 (9 * i + k) = G 15 (9 * i + k)
        rw [g15]
        unfold ovl
        rw [if_neg (by omega)]
    · unfold Z36
      rw [fo 36 (by decide) (by omega)]
      exact p7
  · rw [if_neg hc, if_neg hc, if_neg hc, if_neg hc]
    exact ⟨rfl, S⟩
theorem Sim.again (S : Sim F G n nr ns h nx sz) (s : Int32) : agR F s = agMR G s ∧ ∃ sz', Sim (agF F s) (agMF G s) n nr ns h nx sz' := by
  obtain ⟨p1, p2, p3, p4, p5, p6, p7⟩ := S.pieces
  unfold agR agMR agF agMF
  by_cases hc : hasB s 2 = true
  · rw [if_pos hc, if_pos hc, if_pos hc, if_pos hc]
    obtain ⟨j, hj, rfl⟩ := hasB_of (by decide) hc
    rw [ix_nI (show j < 100 by omega), ← p6.2.1]
    by_cases hk : F 16 j = 0
    · rw [if_pos hk, if_pos hk, if_pos hk, if_pos hk]
      exact ⟨rfl, sz, S⟩
    · rw [if_neg hk, if_neg hk, if_neg hk, if_neg hk]
      have hk1 : F 16 j = 1 := (p6.1 j hj).resolve_left hk
      have L := p6.2.2.2 j hj hk1
      have bF := p6.2.2.1 j hj
      refine ⟨?_, 0, ?_⟩
      · have l0 : F (j + 34) 0 = G 15 (9 * j + 5) := L.2.1
        have l1 : F (j + 34) 1 = G 15 (9 * j + 6) := L.2.2.1
        rw [pc_eq L.1, l0, l1]
      · have fo : ∀ c, c ≠ 8 → c ≠ 19 → up2 (cpB F 19 (j + 34)) 8 2 0 c = F c := fun c h1 h2 => by rw [up2_off h1, cpB_off h2]
        have fa : ∀ k, k < 5 → up2 (cpB F 19 (j + 34)) 8 2 0 19 k = F (j + 34) k := fun k hk => by rw [up2_n _ _ (Or.inl (by decide)), cpB_at _ _ _ _ hk]
        have go : ∀ c, c ≠ 0 → c ≠ 5 → up2 (upF G 5 (ovl (G 5) 0 (fun k => G 15 (9 * j + k)) 9)) 0 15 0 c = G c := fun c h1 h2 => by
          rw [up2_off h1]
          exact if_neg h2
        have g0 : ∀ k, k ≠ 15 → up2 (upF G 5 (ovl (G 5) 0 (fun k => G 15 (9 * j + k)) 9)) 0 15 0 0 k = G 0 k := fun k h1 => by
          rw [up2_n _ _ (Or.inr h1)]
          rfl
        have g5 : ∀ k, k < 9 → up2 (upF G 5 (ovl (G 5) 0 (fun k => G 15 (9 * j + k)) 9)) 0 15 0 5 k = G 15 (9 * j + k) := fun k hk => by
          rw [up2_n _ _ (Or.inl (by decide))]
          unfold upF ovl
          rw [if_pos rfl, if_pos (by omega), Nat.sub_zero]
        obtain ⟨⟨a1, a2, a3, a4⟩, ⟨a5, a6⟩, a7, a8⟩ := p4
        refine Sim.of ?_ ?_ ⟨⟨L.2.c fa g5, bF.c fa⟩, L.1.c fa⟩ ⟨⟨?_, ?_, a3, by decide⟩, ⟨?_, ?_⟩, fun i hi => ?_, fun t h1 h2 => by omega⟩ ?_ ?_ ?_
        · exact p1.c (fo 1 (by decide) (by decide)) (fo 2 (by decide) (by decide)) (g0 12 (by decide)) (go 8 (by decide) (by decide))
        · exact p2.c (fo 3 (by decide) (by decide)) (fo 4 (by decide) (by decide)) (fo 5 (by decide) (by decide)) (fo 6 (by decide) (by decide)) (fo 7 (by decide) (by decide)) (g0 0 (by decide)) (g0 1 (by decide)) (go 1 (by decide) (by decide)) (go 2 (by decide) (by decide)) (go 3 (by decide) (by decide)) (go 4 (by decide) (by decide))
        · rw [up2_n _ _ (Or.inr (by decide)), cpB_off (by decide), a1]
        · rw [up2_s]
          rfl
        · rw [up2_n _ _ (Or.inr (by decide)), cpB_off (by decide), g0 16 (by decide), a5]
        · rw [up2_s, up2_s]
        · rw [fo _ (by omega) (by omega)]
          exact a7 i hi
        · exact p5.c (fo 10 (by decide) (by decide)) (fo 11 (by decide) (by decide)) (fo 12 (by decide) (by decide)) (fo 13 (by decide) (by decide)) (fo 14 (by decide) (by decide)) (g0 18 (by decide)) (go 10 (by decide) (by decide)) (go 11 (by decide) (by decide)) (go 12 (by decide) (by decide)) (go 13 (by decide) (by decide))
        · exact p6.c (fo 16 (by decide) (by decide)) (fun i hi => fo _ (by omega) (by omega)) (go 14 (by decide) (by decide)) (go 15 (by decide) (by decide))
        · unfold Z36
          rw [fo 36 (by decide) (by decide)]
          exact p7
  · rw [if_neg hc, if_neg hc, if_neg hc, if_neg hc]
    exact ⟨rfl, sz, S⟩
end SIM
