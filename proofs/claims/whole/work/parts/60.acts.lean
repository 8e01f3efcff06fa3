/-! ===== acts, undone, kept, gone on from ===== -/
theorem nxt_eq : ∀ nx, nx < 14 → nxtI (nI nx) = nI ((nx + 1) % 14) := by decide
theorem inc_A : ∀ z, z ≤ 14 → inc14 (nI z) = nI (if z < 14 then z + 1 else 14) ∧ incM (nI z) = nI (if z < 14 then z + 1 else 14) := by decide
theorem prv_eq : ∀ nx, nx < 14 → prv nx = (nx + 13) % 14 := by decide
section SIM
variable {F G F' G' : FF} {n nr ns h nx sz : Nat}
theorem rmB_off {c : Nat} (h1 : c ≠ nx + 20) (h2 : c ≠ 8) : rmB F nx c = F c := by
  unfold rmB
  rw [up2_off h2, up2_off h2, cpB_off h1]
theorem rmB_8 (hn : nx < 14) : rmB F nx 8 1 = nxtI (F 8 1) ∧ rmB F nx 8 2 = inc14 (F 8 2) := by
  unfold rmB
  refine ⟨?_, up2_s _ _ _ _⟩
  rw [up2_n _ _ (Or.inr (by decide)), up2_s]
theorem kaM_off {c : Nat} (h1 : c ≠ 9) (h2 : c ≠ 0) : kaM G nx c = G c := by
  unfold kaM
  rw [up2_off h2, up2_off h2]
  exact if_neg h1
theorem kaM_9 : kaM G nx 9 = ovl (G 9) (9 * nx) (G 5) 9 := by
  unfold kaM
  rw [up2_off (by decide), up2_off (by decide)]
  exact if_pos rfl
theorem kaM_0 {k : Nat} (h1 : k ≠ 15) (h2 : k ≠ 16) : kaM G nx 0 k = G 0 k := by
  unfold kaM
  rw [up2_n _ _ (Or.inr h1), up2_n _ _ (Or.inr h2)]
  rfl
theorem kaM_16 : kaM G nx 0 16 = nI ((nx + 1) % 14) ∧ kaM G nx 0 15 = incM (G 0 15) := by
  unfold kaM
  refine ⟨?_, up2_s _ _ _ _⟩
  rw [up2_n _ _ (Or.inr (by decide)), up2_s]
theorem Sim.act (S : Sim F G n nr ns h nx sz) (hF : ∀ c, c ≠ 19 → F' c = rmB F nx c) (hG : ∀ c, c ≠ 5 → G' c = kaM G nx c) (hB : BQ (F' 19) (G' 5)) (hP : PB (F' 19) nr ns) : Sim F' G' n nr ns h ((nx + 1) % 14) (if sz < 14 then sz + 1 else 14) := by
  obtain ⟨p1, p2, p3, p4, p5, p6, p7⟩ := S.pieces
  obtain ⟨⟨a1, a2, a3, a4⟩, ⟨a5, a6⟩, a7, a8⟩ := p4
  have f : ∀ c, c < 20 → c ≠ 8 → c ≠ 19 → F' c = F c := fun c h1 h2 h3 => by rw [hF c h3, rmB_off (by omega) h2]
  have f2 : ∀ c, 34 ≤ c → F' c = F c := fun c h1 => by rw [hF c (by omega), rmB_off (by omega) (by omega)]
  have g : ∀ c, c ≠ 0 → c ≠ 5 → c ≠ 9 → G' c = G c := fun c h1 h2 h3 => by rw [hG c h2, kaM_off h3 h1]
  have g0 : ∀ k, k ≠ 15 → k ≠ 16 → G' 0 k = G 0 k := fun k h1 h2 => by rw [hG 0 (by decide), kaM_0 h1 h2]
  have hsz : sz ≤ 14 := a4
  have fo : ∀ j, j < 14 → j ≠ nx → F' (j + 20) = F (j + 20) := fun j hj hn => by rw [hF _ (by omega), rmB_off (by omega) (by omega)]
  have fn : ∀ k, k < 5 → F' (nx + 20) k = F 19 k := fun k hk => by
    rw [hF _ (by omega)]
    unfold rmB
    rw [up2_n _ _ (Or.inl (by omega)), up2_n _ _ (Or.inl (by omega)), cpB_at _ _ _ _ hk]
  refine Sim.of ?_ ?_ ⟨hB, hP⟩ ⟨⟨?_, ?_, Nat.mod_lt _ (by decide), by split <;> omega⟩, ⟨?_, ?_⟩, fun j hj => ?_, fun t h1 h2 => ?_⟩ ?_ ?_ ?_
  · exact p1.c (f 1 (by decide) (by decide) (by decide)) (f 2 (by decide) (by decide) (by decide)) (g0 12 (by decide) (by decide)) (g 8 (by decide) (by decide) (by decide))
  · exact p2.c (f 3 (by decide) (by decide) (by decide)) (f 4 (by decide) (by decide) (by decide)) (f 5 (by decide) (by decide) (by decide)) (f 6 (by decide) (by decide) (by decide)) (f 7 (by decide) (by decide) (by decide)) (g0 0 (by decide) (by decide)) (g0 1 (by decide) (by decide)) (g 1 (by decide) (by decide) (by decide)) (g 2 (by decide) (by decide) (by decide)) (g 3 (by decide) (by decide) (by decide)) (g 4 (by decide) (by decide) (by decide))
  · rw [hF 8 (by decide), (rmB_8 a3).1, a1, nxt_eq nx a3]
  · rw [hF 8 (by decide), (rmB_8 a3).2, a2, (inc_A sz hsz).1]
  · rw [hF 8 (by decide), (rmB_8 a3).1, a1, nxt_eq nx a3, hG 0 (by decide), kaM_16.1]
  · rw [hF 8 (by decide), (rmB_8 a3).2, hG 0 (by decide), kaM_16.2, ← a6, a2, (inc_A sz hsz).1, (inc_A sz hsz).2]
  · by_cases e : j = nx
    · rw [e]
      exact BF.c p3.1.2 fn
    · rw [fo j hj e]
      exact a7 j hj
  · have g9 : ∀ k, G' 9 k = ovl (G 9) (9 * nx) (G 5) 9 k := fun k => by rw [hG 9 (by decide), kaM_9]
    by_cases e : t = 1
    · have es : ((nx + 1) % 14 + 14 - t) % 14 = nx := by omega
      rw [es]
      refine BL.c (f := F 19) (g := G 5) ⟨p3.2, p3.1.1⟩ fn (fun k hk => ?_)
      show G' 9 (9 * nx + k) = G 5 k
      rw [g9]
      unfold ovl
      rw [if_pos (by omega), show 9 * nx + k - 9 * nx = k by omega]
    · have ht : t - 1 ≤ 13 ∧ t - 1 ≤ sz := by split at h2 <;> omega
      have es : ((nx + 1) % 14 + 14 - t) % 14 = (nx + 14 - (t - 1)) % 14 := by omega
      rw [es]
      have hne : (nx + 14 - (t - 1)) % 14 ≠ nx := by omega
      rw [fo _ (Nat.mod_lt _ (by decide)) hne]
      refine (a8 (t - 1) (by omega) ht.2).c (fun _ _ => rfl) (fun k hk => ?_)
      show G' 9 (9 * ((nx + 14 - (t - 1)) % 14) + k) = G 9 (9 * ((nx + 14 - (t - 1)) % 14) + k)
      rw [g9]
      unfold ovl
      rw [if_neg]
      generalize (nx + 14 - (t - 1)) % 14 = u at hne ⊢
      omega
  · exact p5.c (f 10 (by decide) (by decide) (by decide)) (f 11 (by decide) (by decide) (by decide)) (f 12 (by decide) (by decide) (by decide)) (f 13 (by decide) (by decide) (by decide)) (f 14 (by decide) (by decide) (by decide)) (g0 18 (by decide) (by decide)) (g 10 (by decide) (by decide) (by decide)) (g 11 (by decide) (by decide) (by decide)) (g 12 (by decide) (by decide) (by decide)) (g 13 (by decide) (by decide) (by decide))
  · exact p6.c (f 16 (by decide) (by decide) (by decide)) (fun j hj => f2 _ (by omega)) (g 14 (by decide) (by decide) (by decide)) (g 15 (by decide) (by decide) (by decide))
  · unfold Z36
    rw [f2 36 (by decide)]
    exact p7
theorem rm19 (S : Sim F G n nr ns h nx sz) : rmB F nx 19 = F 19 ∧ kaM G nx 5 = G 5 := by
  have := S.1.2.2.2.1.2.2.1
  exact ⟨rmB_off (by omega) (by decide), kaM_off (by decide) (by decide)⟩
theorem Sim.read (S : Sim F G n nr ns h nx sz) (r s : Int32) : rcR F nr ns r s = rcMR G nr ns r s ∧ ∃ nx' sz', Sim (rcF F nr ns nx r s) (rcMF G nr ns nx r s) n nr ns h nx' sz' := by
  unfold rcR rcMR rcF rcMF
  by_cases hc : chk r nr s ns = true
  · rw [if_pos hc, if_pos hc, if_pos hc, if_pos hc]
    have h5 := S.1.2.1.2.2.1
    have h4 := S.1.2.1.2.2.2
    obtain ⟨i, j, hi, hj, rfl, rfl⟩ := chk_of h5 h4 hc
    rw [ix_nI (show i < 100 by omega), ix_nI (show j < 100 by omega)]
    have e : sayN F j i = sayM G 0 j i := S.say hi hj
    rw [e]
    refine ⟨rfl, (nx + 1) % 14, _, S.act (fun c hc => tkR_off hc) (fun c hc => rdM_off hc) ?_ ?_⟩
    · have := tk_BQ (F := rmB F nx) (G := kaM G nx) (b := 19) (v := 0) (y := sayM G 0 j i) hi hj h5 h4 (by
        rw [(rm19 S).1, (rm19 S).2]
        exact S.bq.c (fun _ _ => rfl) (fun k _ => by rw [Nat.mul_zero, Nat.zero_add])) (by rw [(rm19 S).1]; exact S.2.2.2.2.1)
      exact this.1.c (fun _ _ => rfl) (fun k _ => by rw [Nat.mul_zero, Nat.zero_add])
    · have := tk_BQ (F := rmB F nx) (G := kaM G nx) (b := 19) (v := 0) (y := sayM G 0 j i) hi hj h5 h4 (by
        rw [(rm19 S).1, (rm19 S).2]
        exact S.bq.c (fun _ _ => rfl) (fun k _ => by rw [Nat.mul_zero, Nat.zero_add])) (by rw [(rm19 S).1]; exact S.2.2.2.2.1)
      exact this.2
  · rw [if_neg hc, if_neg hc, if_neg hc, if_neg hc]
    exact ⟨rfl, nx, sz, S⟩
theorem Sim.rest (S : Sim F G n nr ns h nx sz) (r : Int32) : rsR F nr r = rsMR G nr r ∧ ∃ nx' sz', Sim (rsF F nr nx r) (rsMF G nr nx r) n nr ns h nx' sz' := by
  unfold rsR rsMR rsF rsMF
  by_cases hc : hasB r nr = true
  · rw [if_pos hc, if_pos hc, if_pos hc, if_pos hc]
    have h5 := S.1.2.1.2.2.1
    obtain ⟨i, hi, rfl⟩ := hasB_of h5 hc
    rw [ix_nI (show i < 100 by omega)]
    have e : rdg (F 19 2) i = G 5 i := S.bq.1.2.2.1 i (by omega)
    rw [e]
    by_cases h0 : G 5 i = 0
    · rw [if_pos h0, if_pos h0, if_pos h0]
      exact ⟨rfl, nx, sz, S⟩
    · rw [if_neg h0, if_neg h0, if_neg h0]
      refine ⟨rfl, (nx + 1) % 14, _, S.act (fun c hc => up2_off hc) (fun c hc => up2_off hc) ?_ ?_⟩
      · refine BQ.r0 (f := F 19) (g := G 5) (c := i) (by omega) S.bq ?_ (fun k _ hk => ?_) ?_ (fun k _ hk => ?_)
        · rw [up2_s]
        · rw [up2_n _ _ (Or.inr hk), (rm19 S).1]
        · rw [up2_s]
        · rw [up2_n _ _ (Or.inr hk), (rm19 S).2]
      · unfold PB
        rw [up2_n _ _ (Or.inr (by decide)), up2_n _ _ (Or.inr (by decide)), (rm19 S).1]
        exact S.2.2.2.2.1
  · rw [if_neg hc, if_neg hc, if_neg hc, if_neg hc]
    exact ⟨rfl, nx, sz, S⟩
theorem Sim.prism (S : Sim F G n nr ns h nx sz) : nzI (F 19 3) = 1 - G 5 7 ∧ ∃ nx' sz', Sim (up2 (rmB F nx) 19 3 (nzI (F 19 3))) (up2 (kaM G nx) 5 7 (1 - G 5 7)) n nr ns h nx' sz' := by
  have hB := S.bq
  refine ⟨by rw [(nz_eq hB.2.2.1).1, hB.1.2.2.2.1], (nx + 1) % 14, _, S.act (fun c hc => up2_off hc) (fun c hc => up2_off hc) ?_ ?_⟩
  · refine BQ.t3 (f := F 19) (g := G 5) hB ?_ (fun k _ hk => ?_) ?_ (fun k _ hk => ?_)
    · rw [up2_s]
    · rw [up2_n _ _ (Or.inr hk), (rm19 S).1]
    · rw [up2_s]
    · rw [up2_n _ _ (Or.inr hk), (rm19 S).2]
  · unfold PB
    rw [up2_n _ _ (Or.inr (by decide)), up2_n _ _ (Or.inr (by decide)), (rm19 S).1]
    exact S.2.2.2.2.1
theorem Sim.tell (S : Sim F G n nr ns h nx sz) : nzI (F 19 4) = 1 - G 5 8 ∧ ∃ nx' sz', Sim (up2 (rmB F nx) 19 4 (nzI (F 19 4))) (up2 (kaM G nx) 5 8 (1 - G 5 8)) n nr ns h nx' sz' := by
  have hB := S.bq
  refine ⟨by rw [(nz_eq hB.2.2.2).1, hB.1.2.2.2.2], (nx + 1) % 14, _, S.act (fun c hc => up2_off hc) (fun c hc => up2_off hc) ?_ ?_⟩
  · refine BQ.t4 (f := F 19) (g := G 5) hB ?_ (fun k _ hk => ?_) ?_ (fun k _ hk => ?_)
    · rw [up2_s]
    · rw [up2_n _ _ (Or.inr hk), (rm19 S).1]
    · rw [up2_s]
    · rw [up2_n _ _ (Or.inr hk), (rm19 S).2]
  · unfold PB
    rw [up2_n _ _ (Or.inr (by decide)), up2_n _ _ (Or.inr (by decide)), (rm19 S).1]
    exact S.2.2.2.2.1
theorem Sim.withdraw (S : Sim F G n nr ns h nx sz) (r s : Int32) : wdR F nr ns r s = wdMR G nr ns r s ∧ ∃ nx' sz', Sim (wdF F nr ns nx r s) (wdMF G nr ns nx r s) n nr ns h nx' sz' := by
  unfold wdR wdMR wdF wdMF
  by_cases hc : chk r nr s ns = true
  · rw [if_pos hc, if_pos hc, if_pos hc, if_pos hc]
    have h5 := S.1.2.1.2.2.1
    have h4 := S.1.2.1.2.2.2
    obtain ⟨i, j, hi, hj, rfl, rfl⟩ := chk_of h5 h4 hc
    rw [ix_nI (show i < 100 by omega), ix_nI (show j < 100 by omega)]
    have hB := S.bq
    have e0 : F 19 0 = G 5 5 := hB.1.1
    have e1 : F 19 1 = G 5 6 := hB.1.2.1
    have hP := S.2.2.2.2.1
    obtain ⟨⟨a, ha, ea, -⟩, b, hb, eb, -⟩ := hP
    have ta : hasT (G 5 5) (nI (4 * i + j)) = a.testBit (4 * i + j) := by rw [← e0, ea]; exact hasT_nI (by omega) (by omega)
    have tb' : hasT (G 5 6) (nI (4 * i + j)) = b.testBit (4 * i + j) := by rw [← e1, eb]; exact hasT_nI (by omega) (by omega)
    have hab : (F 19 0 ||| F 19 1) &&& ppr i j = 0 ↔ a.testBit (4 * i + j) = false ∧ b.testBit (4 * i + j) = false := by
      rw [ea, eb, nI_or, and_ppr (Nat.or_lt_two_pow ha hb), Nat.testBit_or, Bool.or_eq_false_iff]
    have ha0 : F 19 0 &&& ppr i j = 0 ↔ a.testBit (4 * i + j) = false := by rw [ea, and_ppr ha]
    have hor : (hasT (G 5 5) (nI (4 * i + j)) || hasT (G 5 6) (nI (4 * i + j))) = true ↔ ¬ ((F 19 0 ||| F 19 1) &&& ppr i j = 0) := by
      rw [hab, ta, tb']
      cases a.testBit (4 * i + j) <;> cases b.testBit (4 * i + j) <;> simp
    by_cases hz : (F 19 0 ||| F 19 1) &&& ppr i j = 0
    · rw [if_pos hz, if_pos hz, if_neg (fun z => hor.mp z hz), if_neg (fun z => hor.mp z hz)]
      exact ⟨rfl, nx, sz, S⟩
    · rw [if_neg hz, if_neg hz, if_pos (hor.mpr hz), if_pos (hor.mpr hz)]
      have d0 : dpB (rmB F nx) 19 (ppr i j) 19 0 = F 19 0 &&& (ppr i j ^^^ (-1)) := by
        unfold dpB
        rw [up2_n _ _ (Or.inr (by decide)), up2_s, (rm19 S).1]
      have d1 : dpB (rmB F nx) 19 (ppr i j) 19 1 = F 19 1 &&& (ppr i j ^^^ (-1)) := by
        unfold dpB
        rw [up2_s, (rm19 S).1]
      have dk : ∀ k, k ≠ 0 → k ≠ 1 → dpB (rmB F nx) 19 (ppr i j) 19 k = F 19 k := by
        intro k h0 h1
        unfold dpB
        rw [up2_n _ _ (Or.inr h1), up2_n _ _ (Or.inr h0), (rm19 S).1]
      refine ⟨?_, (nx + 1) % 14, _, S.act (fun c hc => ?_) (fun c hc => ?_) ?_ ?_⟩
      · rw [ta]
        cases q : a.testBit (4 * i + j) with
        | false => rw [if_pos (ha0.mpr q)]; rfl
        | true => rw [if_neg (fun z => by rw [ha0.mp z] at q; cases q)]; rfl
      · unfold dpB
        rw [up2_off hc, up2_off hc]
      · rw [up2_off hc, up2_off hc]
      · obtain ⟨⟨b0, b1, b2, b3, b4⟩, R, z3, z4⟩ := hB
        refine ⟨⟨?_, ?_, fun r hr => ?_, ?_, ?_⟩, ?_, ?_, ?_⟩
        · rw [d0, up2_n _ _ (Or.inr (by decide)), up2_s, b0]
        · rw [d1, up2_s, b1]
        · rw [dk 2 (by decide) (by decide), up2_n _ _ (Or.inr (by omega)), up2_n _ _ (Or.inr (by omega)), (rm19 S).2, b2 r hr]
        · rw [dk 3 (by decide) (by decide), up2_n _ _ (Or.inr (by decide)), up2_n _ _ (Or.inr (by decide)), (rm19 S).2, b3]
        · rw [dk 4 (by decide) (by decide), up2_n _ _ (Or.inr (by decide)), up2_n _ _ (Or.inr (by decide)), (rm19 S).2, b4]
        · rw [dk 2 (by decide) (by decide)]
          exact R
        · rw [dk 3 (by decide) (by decide)]
          exact z3
        · rw [dk 4 (by decide) (by decide)]
          exact z4
      · unfold PB
        rw [d0, d1]
        exact ⟨PM_clr S.2.2.2.2.1.1 (by omega) (by omega), PM_clr S.2.2.2.2.1.2 (by omega) (by omega)⟩
  · rw [if_neg hc, if_neg hc, if_neg hc, if_neg hc]
    exact ⟨rfl, nx, sz, S⟩
/-! undo -/
theorem Sim.undo (S : Sim F G n nr ns h nx sz) : (if F 8 2 = 0 then -3 else F 8 2 - 1) = (if G 0 15 = 0 then -3 else G 0 15 - 1) ∧ ∃ nx' sz', Sim (if F 8 2 = 0 then F else tbB F nx) (if G 0 15 = 0 then G else undM G nx) n nr ns h nx' sz' := by
  obtain ⟨p1, p2, p3, p4, p5, p6, p7⟩ := S.pieces
  obtain ⟨⟨a1, a2, a3, a4⟩, ⟨a5, a6⟩, a7, a8⟩ := p4
  rw [← a6]
  refine ⟨rfl, ?_⟩
  by_cases h0 : F 8 2 = 0
  · rw [if_pos h0, if_pos h0]
    exact ⟨nx, sz, S⟩
  · rw [if_neg h0, if_neg h0]
    have s1 : 1 ≤ sz := by
      rcases Nat.eq_zero_or_pos sz with e | e
      · rw [a2, e] at h0
        exact absurd rfl h0
      · exact e
    have ep := prv_eq nx a3
    have pl : prv nx < 14 := by rw [ep]; exact Nat.mod_lt _ (by decide)
    have fo : ∀ c, c ≠ 8 → c ≠ 19 → tbB F nx c = F c := fun c h8 h19 => by
      unfold tbB
      rw [cpB_off h19, up2_off h8, up2_off h8]
    have fa : ∀ k, k < 5 → tbB F nx 19 k = F (prv nx + 20) k := fun k hk => by
      unfold tbB
      rw [cpB_at _ _ _ _ hk, up2_n _ _ (Or.inl (by omega)), up2_n _ _ (Or.inl (by omega))]
    have f1 : tbB F nx 8 1 = nI ((nx + 13) % 14) := by
      unfold tbB
      rw [cpB_off (by decide), up2_n _ _ (Or.inr (by decide)), up2_s, ep]
    have f2 : tbB F nx 8 2 = F 8 2 - 1 := by
      unfold tbB
      rw [cpB_off (by decide), up2_s]
    have e2 : F 8 2 - 1 = nI (sz - 1) := by
      rw [a2, show (1 : Int32) = nI 1 from rfl, pk_sub s1]
    have go : ∀ c, c ≠ 0 → c ≠ 5 → undM G nx c = G c := fun c h0 h5 => by
      unfold undM upF
      rw [if_neg h5, up2_off h0, up2_off h0]
    have g0 : ∀ k, k ≠ 15 → k ≠ 16 → undM G nx 0 k = G 0 k := fun k h15 h16 => by
      unfold undM upF
      rw [if_neg (by decide), up2_n _ _ (Or.inr h16), up2_n _ _ (Or.inr h15)]
    have g16 : undM G nx 0 16 = nI ((nx + 13) % 14) := by
      unfold undM upF
      rw [if_neg (by decide), up2_s]
    have g15 : undM G nx 0 15 = G 0 15 - 1 := by
      unfold undM upF
      rw [if_neg (by decide), up2_n _ _ (Or.inr (by decide)), up2_s]
    have g5 : ∀ k, k < 9 → undM G nx 5 k = G 9 (9 * ((nx + 13) % 14) + k) := fun k hk => by
      unfold undM upF ovl
      rw [if_pos rfl, if_pos (by omega), Nat.sub_zero]
    have b1 := a8 1 (Nat.le_refl _) s1
    rw [show (nx + 14 - 1) % 14 = (nx + 13) % 14 by omega] at b1
    have bF : BF (F (prv nx + 20)) := a7 _ pl
    rw [ep] at fa bF
    refine ⟨(nx + 13) % 14, sz - 1, Sim.of ?_ ?_ ⟨⟨b1.2.c fa g5, bF.c fa⟩, b1.1.c fa⟩ ⟨⟨f1, by rw [f2, e2], Nat.mod_lt _ (by decide), by omega⟩, ⟨by rw [f1, g16], by rw [f2, g15, a6]⟩, fun j hj => ?_, fun t h1 h2 => ?_⟩ ?_ ?_ ?_⟩
    · exact p1.c (fo 1 (by decide) (by decide)) (fo 2 (by decide) (by decide)) (g0 12 (by decide) (by decide)) (go 8 (by decide) (by decide))
    · exact p2.c (fo 3 (by decide) (by decide)) (fo 4 (by decide) (by decide)) (fo 5 (by decide) (by decide)) (fo 6 (by decide) (by decide)) (fo 7 (by decide) (by decide)) (g0 0 (by decide) (by decide)) (g0 1 (by decide) (by decide)) (go 1 (by decide) (by decide)) (go 2 (by decide) (by decide)) (go 3 (by decide) (by decide)) (go 4 (by decide) (by decide))
    · rw [fo _ (by omega) (by omega)]
      exact a7 j hj
    · have es : ((nx + 13) % 14 + 14 - t) % 14 = (nx + 14 - (t + 1)) % 14 := by omega
      rw [es, fo _ (by omega) (by omega), go 9 (by decide) (by decide)]
      exact a8 (t + 1) (by omega) (by omega)
    · exact p5.c (fo 10 (by decide) (by decide)) (fo 11 (by decide) (by decide)) (fo 12 (by decide) (by decide)) (fo 13 (by decide) (by decide)) (fo 14 (by decide) (by decide)) (g0 18 (by decide) (by decide)) (go 10 (by decide) (by decide)) (go 11 (by decide) (by decide)) (go 12 (by decide) (by decide)) (go 13 (by decide) (by decide))
    · exact p6.c (fo 16 (by decide) (by decide)) (fun j hj => fo _ (by omega) (by omega)) (go 14 (by decide) (by decide)) (go 15 (by decide) (by decide))
    · unfold Z36
      rw [fo 36 (by decide) (by decide)]
      exact p7
end SIM
