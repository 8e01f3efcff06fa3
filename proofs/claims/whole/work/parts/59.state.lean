/-! ===== the two states kept side by side ===== -/
def BF (f : Nat → Int32) : Prop := (∀ r, r < 5 → le9 (rdg (f 2) r)) ∧ (f 3 = 0 ∨ f 3 = 1) ∧ (f 4 = 0 ∨ f 4 = 1)
def PT (F G : FF) (n : Nat) : Prop := (F 1 1 = nI n ∧ n ≤ 36) ∧ F 1 1 = G 0 12 ∧ F 2 = G 8
def PR (F G : FF) (nr ns : Nat) : Prop := NR F nr ns ∧ (F 3 4 = G 0 0 ∧ F 3 5 = G 0 1 ∧ F 4 = G 1 ∧ F 5 = G 2 ∧ F 6 = G 3 ∧ F 7 = G 4) ∧ RG F nr ns
def PN (F G : FF) (nr ns : Nat) : Prop := BQ (F 19) (G 5) ∧ PB (F 19) nr ns
def PA (F G : FF) (nr ns nx sz : Nat) : Prop := AC F nx sz ∧ (F 8 1 = G 0 16 ∧ F 8 2 = G 0 15) ∧ (∀ j, j < 14 → BF (F (j + 20))) ∧ ∀ t, 1 ≤ t → t ≤ sz → BL (F ((nx + 14 - t) % 14 + 20)) (fun k => G 9 (9 * ((nx + 14 - t) % 14) + k)) nr ns
def PH (F G : FF) (h : Nat) : Prop := HD F h ∧ (F 10 4 = G 0 18 ∧ F 11 = G 10 ∧ F 12 = G 11 ∧ F 13 = G 12 ∧ F 14 = G 13)
def PK (F G : FF) (nr ns : Nat) : Prop := (∀ j, j < 2 → F 16 j = 0 ∨ F 16 j = 1) ∧ F 16 = G 14 ∧ (∀ j, j < 2 → BF (F (j + 34))) ∧ ∀ j, j < 2 → F 16 j = 1 → BL (F (j + 34)) (fun k => G 15 (9 * j + k)) nr ns
theorem BF.c {f f' : Nat → Int32} (h : BF f) (hf : ∀ k, k < 5 → f' k = f k) : BF f' := by
  unfold BF
  rw [hf 2 (by decide), hf 3 (by decide), hf 4 (by decide)]
  exact h
theorem BL.c {f f' g g' : Nat → Int32} {nr ns : Nat} (h : BL f g nr ns) (hf : ∀ k, k < 5 → f' k = f k) (hg : ∀ k, k < 9 → g' k = g k) : BL f' g' nr ns := ⟨h.1.c hf, h.2.c hf hg⟩
section SIM
variable {F G F' G' : FF} {n nr ns h nx sz : Nat}
theorem Sim.pieces (S : Sim F G n nr ns h nx sz) : PT F G n ∧ PR F G nr ns ∧ PN F G nr ns ∧ PA F G nr ns nx sz ∧ PH F G h ∧ PK F G nr ns ∧ Z36 F := by
  have hB := S.bq
  obtain ⟨⟨i1, i2, i3, i4, i5, i6⟩, ⟨⟨t1, t2⟩, rr, bb, ⟨a1, a2, -⟩, hh, ⟨k1, -⟩⟩, hg, hd, lv1, lv2, lv3⟩ := S
  refine ⟨⟨i1, t1, t2⟩, ⟨i2, rr, hg⟩, ⟨hB, lv1⟩, ⟨i4, ⟨a1, a2⟩, fun j hj => ⟨hd (j + 20) (by omega) (by omega), i5 (j + 20) (by omega) (by omega)⟩, lv2⟩, ⟨i3, hh⟩, ⟨i6, k1, fun j hj => ⟨hd (j + 34) (by omega) (by omega), i5 (j + 34) (by omega) (by omega)⟩, lv3⟩, i5 36 (by decide) (by decide)⟩
theorem Sim.of (h1 : PT F G n) (h2 : PR F G nr ns) (h3 : PN F G nr ns) (h4 : PA F G nr ns nx sz) (h5 : PH F G h) (h6 : PK F G nr ns) (h7 : Z36 F) : Sim F G n nr ns h nx sz := by
  have bf : ∀ b, 19 ≤ b → b < 36 → BF (F b) := by
    intro b hb1 hb2
    by_cases e : b = 19
    · rw [e]; exact h3.1.2
    · by_cases e2 : b < 34
      · have := h4.2.2.1 (b - 20) (by omega)
        rw [show b - 20 + 20 = b by omega] at this
        exact this
      · have := h6.2.2.1 (b - 34) (by omega)
        rw [show b - 34 + 34 = b by omega] at this
        exact this
  refine ⟨⟨h1.1, h2.1, h5.1, h4.1, fun b hb1 hb2 => ?_, h6.1⟩, ⟨h1.2, h2.2.1, h3.1.1, ⟨h4.2.1.1, h4.2.1.2, trivial⟩, h5.2, h6.2.1, trivial⟩, h2.2.2, fun b hb1 hb2 => (bf b hb1 hb2).1, h3.2, h4.2.2.2, h6.2.2.2⟩
  by_cases e : b = 36
  · rw [e]; exact h7
  · exact (bf b hb1 (by omega)).2
theorem PT.c (h : PT F G n) (f1 : F' 1 = F 1) (f2 : F' 2 = F 2) (g0 : G' 0 12 = G 0 12) (g8 : G' 8 = G 8) : PT F' G' n := by
  unfold PT
  rw [f1, f2, g0, g8]
  exact h
theorem PR.c (h : PR F G nr ns) (f3 : F' 3 = F 3) (f4 : F' 4 = F 4) (f5 : F' 5 = F 5) (f6 : F' 6 = F 6) (f7 : F' 7 = F 7) (g0 : G' 0 0 = G 0 0) (g01 : G' 0 1 = G 0 1) (g1 : G' 1 = G 1) (g2 : G' 2 = G 2) (g3 : G' 3 = G 3) (g4 : G' 4 = G 4) : PR F' G' nr ns := by
  unfold PR NR RG
  rw [f3, f4, f5, f6, f7, g0, g01, g1, g2, g3, g4]
  exact h
theorem PN.c (h : PN F G nr ns) (f : F' 19 = F 19) (g : ∀ k, k < 9 → G' 5 k = G 5 k) : PN F' G' nr ns := by
  refine ⟨h.1.c (fun k _ => by rw [f]) g, ?_⟩
  rw [f]
  exact h.2
theorem PA.c (h : PA F G nr ns nx sz) (f8 : F' 8 = F 8) (fb : ∀ j, j < 14 → F' (j + 20) = F (j + 20)) (g1 : G' 0 16 = G 0 16) (g2 : G' 0 15 = G 0 15) (g9 : G' 9 = G 9) : PA F' G' nr ns nx sz := by
  unfold PA AC
  rw [f8, g1, g2, g9]
  refine ⟨h.1, h.2.1, fun j hj => by rw [fb j hj]; exact h.2.2.1 j hj, fun t h1 h2 => ?_⟩
  rw [fb _ (Nat.mod_lt _ (by decide))]
  exact h.2.2.2 t h1 h2
theorem PH.c (z : PH F G h) (f10 : F' 10 = F 10) (f11 : F' 11 = F 11) (f12 : F' 12 = F 12) (f13 : F' 13 = F 13) (f14 : F' 14 = F 14) (g0 : G' 0 18 = G 0 18) (g10 : G' 10 = G 10) (g11 : G' 11 = G 11) (g12 : G' 12 = G 12) (g13 : G' 13 = G 13) : PH F' G' h := by
  unfold PH HD
  rw [f10, f11, f12, f13, f14, g0, g10, g11, g12, g13]
  exact z
theorem PK.c (z : PK F G nr ns) (f16 : F' 16 = F 16) (f34 : ∀ j, j < 2 → F' (j + 34) = F (j + 34)) (g14 : G' 14 = G 14) (g15 : G' 15 = G 15) : PK F' G' nr ns := by
  unfold PK
  rw [f16, g14, g15]
  exact ⟨z.1, z.2.1, fun j hj => by rw [f34 j hj]; exact z.2.2.1 j hj, fun j hj q => by rw [f34 j hj]; exact z.2.2.2 j hj q⟩
/-! scratch rows -/
theorem Sim.scr (S : Sim F G n nr ns h nx sz) (hF : ∀ i, i ≠ 17 → i ≠ 18 → i ≠ 36 → F' i = F i) (hz : Z36 F') (hG : ∀ i, i ≠ 0 → i ≠ 5 → i ≠ 6 → i ≠ 7 → G' i = G i) (h0 : ∀ k, k ≠ 9 → k ≠ 10 → k ≠ 13 → k ≠ 14 → G' 0 k = G 0 k) (h5 : ∀ k, k < 9 → G' 5 k = G 5 k) : Sim F' G' n nr ns h nx sz := by
  obtain ⟨p1, p2, p3, p4, p5, p6, -⟩ := S.pieces
  have f : ∀ i, i < 17 → F' i = F i := fun i hi => hF i (by omega) (by omega) (by omega)
  have f2 : ∀ i, 19 ≤ i → i < 36 → F' i = F i := fun i hi _ => hF i (by omega) (by omega) (by omega)
  have g : ∀ i, i ≠ 0 → i ≠ 5 → i ≠ 6 → i ≠ 7 → G' i = G i := hG
  refine Sim.of (p1.c (f 1 (by decide)) (f 2 (by decide)) (h0 12 (by decide) (by decide) (by decide) (by decide)) (g 8 (by decide) (by decide) (by decide) (by decide))) ?_ (p3.c (f2 19 (by decide) (by decide)) h5) ?_ ?_ ?_ hz
  · exact p2.c (f 3 (by decide)) (f 4 (by decide)) (f 5 (by decide)) (f 6 (by decide)) (f 7 (by decide)) (h0 0 (by decide) (by decide) (by decide) (by decide)) (h0 1 (by decide) (by decide) (by decide) (by decide)) (g 1 (by decide) (by decide) (by decide) (by decide)) (g 2 (by decide) (by decide) (by decide) (by decide)) (g 3 (by decide) (by decide) (by decide) (by decide)) (g 4 (by decide) (by decide) (by decide) (by decide))
  · exact p4.c (f 8 (by decide)) (fun j hj => f2 (j + 20) (by omega) (by omega)) (h0 16 (by decide) (by decide) (by decide) (by decide)) (h0 15 (by decide) (by decide) (by decide) (by decide)) (g 9 (by decide) (by decide) (by decide) (by decide))
  · exact p5.c (f 10 (by decide)) (f 11 (by decide)) (f 12 (by decide)) (f 13 (by decide)) (f 14 (by decide)) (h0 18 (by decide) (by decide) (by decide) (by decide)) (g 10 (by decide) (by decide) (by decide) (by decide)) (g 11 (by decide) (by decide) (by decide) (by decide)) (g 12 (by decide) (by decide) (by decide) (by decide)) (g 13 (by decide) (by decide) (by decide) (by decide))
  · exact p6.c (f 16 (by decide)) (fun j hj => f2 (j + 34) (by omega) (by omega)) (g 14 (by decide) (by decide) (by decide) (by decide)) (g 15 (by decide) (by decide) (by decide) (by decide))
theorem Sim.sc (S : Sim F G n nr ns h nx sz) (hF : SCF F F') (hG : SCG G G') : Sim F' G' n nr ns h nx sz :=
  S.scr (fun i _ _ h36 => hF.1 i h36) (hF.2 (S.pieces.2.2.2.2.2.2)) (fun i _ h5 _ _ => hG.1 i h5) (fun k _ _ _ _ => by rw [hG.1 0 (by decide)]) hG.2
theorem setW_off (F : FF) (g : Nat → Int32) {c : Nat} (hc : c ≠ 17) : ∀ s, setW F g s c = F c
  | 0 => rfl
  | s + 1 => by rw [setW, up2_off hc, setW_off F g hc s]
theorem Sim.w17 (S : Sim F G n nr ns h nx sz) (g : Nat → Int32) (s : Nat) : Sim (setW F g s) G n nr ns h nx sz := by
  refine S.scr (fun i h17 _ _ => setW_off F g h17 s) ?_ (fun _ _ _ _ _ => rfl) (fun _ _ _ _ _ => rfl) (fun _ _ => rfl)
  unfold Z36
  rw [setW_off F g (by decide) s]
  exact S.pieces.2.2.2.2.2.2
theorem Sim.w18 (S : Sim F G n nr ns h nx sz) (f : Nat → Int32) : Sim (upF F 18 f) G n nr ns h nx sz :=
  S.scr (fun i _ h18 _ => if_neg h18) S.pieces.2.2.2.2.2.2 (fun _ _ _ _ _ => rfl) (fun _ _ _ _ _ => rfl) (fun _ _ => rfl)
/-! write, wipe, hear, unhear -/
theorem Sim.write (S : Sim F G n nr ns h nx sz) (v : Int32) : wrR F n v = wrMR G n v ∧ ∃ n', Sim (wrF F n v) (wrMF G n v) n' nr ns h nx sz := by
  obtain ⟨p1, p2, p3, p4, p5, p6, p7⟩ := S.pieces
  unfold wrR wrMR wrF wrMF
  rw [p1.2.1]
  refine ⟨rfl, ?_⟩
  by_cases hv : 0 ≤ v ∧ v ≤ 255
  · rw [if_pos hv, if_pos hv]
    by_cases hn : n < 36
    · rw [if_pos hn, if_pos hn]
      have e12 : G 0 12 = nI n := p1.2.1.symm.trans p1.1.1
      refine ⟨n + 1, Sim.of ⟨⟨?_, by omega⟩, ?_, ?_⟩ ?_ ?_ ?_ ?_ ?_ p7⟩
      · rw [up2_s, e12]; exact nI_1 n
      · rw [up2_s, up2_s]
      · rw [up2_off (by decide), up2_cell, up2_off (by decide), up2_cell, p1.2.2]
      · exact p2.c rfl rfl rfl rfl rfl rfl rfl rfl rfl rfl rfl
      · exact p3.c rfl (fun _ _ => rfl)
      · exact p4.c rfl (fun j hj => by rw [up2_off (by omega), up2_off (by omega)]) rfl rfl rfl
      · exact p5.c rfl rfl rfl rfl rfl rfl rfl rfl rfl rfl
      · exact p6.c rfl (fun j hj => by rw [up2_off (by omega), up2_off (by omega)]) rfl rfl
    · rw [if_neg hn, if_neg hn]
      exact ⟨n, S⟩
  · rw [if_neg hv, if_neg hv]
    exact ⟨n, S⟩
theorem Sim.wipe (S : Sim F G n nr ns h nx sz) : F 1 1 = G 0 12 ∧ Sim (up2 F 1 1 0) (up2 G 0 12 0) 0 nr ns h nx sz := by
  obtain ⟨p1, p2, p3, p4, p5, p6, p7⟩ := S.pieces
  refine ⟨p1.2.1, Sim.of ⟨⟨?_, by omega⟩, ?_, ?_⟩ ?_ ?_ ?_ ?_ ?_ p7⟩
  · rw [up2_s]; rfl
  · rw [up2_s, up2_s]
  · exact p1.2.2
  · exact p2.c rfl rfl rfl rfl rfl rfl rfl rfl rfl rfl rfl
  · exact p3.c rfl (fun _ _ => rfl)
  · exact p4.c rfl (fun j hj => by rw [up2_off (by omega)]) rfl rfl rfl
  · exact p5.c rfl rfl rfl rfl rfl rfl rfl rfl rfl rfl
  · exact p6.c rfl (fun j hj => by rw [up2_off (by omega)]) rfl rfl
theorem Sim.unhear (S : Sim F G n nr ns h nx sz) : F 10 4 = G 0 18 ∧ Sim (up2 F 10 4 0) (up2 G 0 18 0) n nr ns 0 nx sz := by
  obtain ⟨p1, p2, p3, p4, p5, p6, p7⟩ := S.pieces
  refine ⟨p5.2.1, Sim.of ?_ ?_ ?_ ?_ ⟨⟨?_, by omega, p5.1.2.2⟩, ?_, p5.2.2⟩ ?_ p7⟩
  · exact p1.c rfl rfl rfl rfl
  · exact p2.c rfl rfl rfl rfl rfl rfl rfl rfl rfl rfl rfl
  · exact p3.c rfl (fun _ _ => rfl)
  · exact p4.c rfl (fun j hj => by rw [up2_off (by omega)]) rfl rfl rfl
  · rw [up2_s]; rfl
  · rw [up2_s, up2_s]
  · exact p6.c rfl (fun j hj => by rw [up2_off (by omega)]) rfl rfl
theorem b2_tru {p : Int32} (h0 : 0 ≤ p) (h1 : p ≤ 1) : b2 (tru p) = p := by
  obtain ⟨m, hm, rfl⟩ := ix0 (K := 1) h0 h1 (by decide)
  have : m = 0 ∨ m = 1 := by omega
  rcases this with rfl | rfl <;> decide
theorem Sim.hear (S : Sim F G n nr ns h nx sz) (r s p y : Int32) : heR F nr ns h r s p y = heMR G nr ns h r s p y ∧ ∃ h', Sim (heF F nr ns h r s p y) (heMF G nr ns h r s p y) n nr ns h' nx sz := by
  obtain ⟨p1, p2, p3, p4, p5, p6, p7⟩ := S.pieces
  unfold heR heMR heF heMF
  rw [p5.2.1]
  refine ⟨rfl, ?_⟩
  by_cases hc : chk r nr s ns = true
  · rw [if_pos hc, if_pos hc]
    by_cases hv : 0 ≤ p ∧ p ≤ 1 ∧ 0 ≤ y ∧ y ≤ 1
    · rw [if_pos hv, if_pos hv]
      by_cases hn : h < 6
      · rw [if_pos hn, if_pos hn, b2_tru hv.1 hv.2.1, b2_tru hv.2.2.1 hv.2.2.2]
        obtain ⟨⟨q1, q2, q3⟩, e10, e11, e12, e13, e14⟩ := p5
        have z01 : ∀ {v : Int32}, 0 ≤ v → v ≤ 1 → v = 0 ∨ v = 1 := by
          intro v h0 h1
          rw [← b2_tru h0 h1]
          exact b2_01 _
        have c11 : hrA F h r s p y 11 = upd (F 11) h r := by
          unfold hrA
          rw [up2_off (by decide), up2_off (by decide), up2_off (by decide), up2_off (by decide), up2_cell]
        have c12 : hrA F h r s p y 12 = upd (F 12) h s := by
          unfold hrA
          rw [up2_off (by decide), up2_off (by decide), up2_off (by decide), up2_cell, up2_off (by decide)]
        have c13 : hrA F h r s p y 13 = upd (F 13) h p := by
          unfold hrA
          rw [up2_off (by decide), up2_off (by decide), up2_cell, up2_off (by decide), up2_off (by decide)]
        have c14 : hrA F h r s p y 14 = upd (F 14) h y := by
          unfold hrA
          rw [up2_off (by decide), up2_cell, up2_off (by decide), up2_off (by decide), up2_off (by decide)]
        have off : ∀ c, c ≠ 10 → c ≠ 11 → c ≠ 12 → c ≠ 13 → c ≠ 14 → hrA F h r s p y c = F c := by
          intro c h0 h1 h2 h3 h4
          unfold hrA
          rw [up2_off h0, up2_off h4, up2_off h3, up2_off h2, up2_off h1]
        refine ⟨h + 1, Sim.of ?_ ?_ ?_ ?_ ⟨⟨?_, by omega, fun j hj => ⟨?_, ?_⟩⟩, ?_, ?_, ?_, ?_, ?_⟩ ?_ ?_⟩
        · exact p1.c rfl rfl rfl rfl
        · exact p2.c rfl rfl rfl rfl rfl rfl rfl rfl rfl rfl rfl
        · exact p3.c rfl (fun _ _ => rfl)
        · exact p4.c rfl (fun j hj => off _ (by omega) (by omega) (by omega) (by omega) (by omega)) rfl rfl rfl
        · unfold hrA
          rw [up2_s, q1]; exact nI_1 h
        · rw [c13]
          unfold upd
          split
          · exact z01 hv.1 hv.2.1
          · exact (q3 j hj).1
        · rw [c14]
          unfold upd
          split
          · exact z01 hv.2.2.1 hv.2.2.2
          · exact (q3 j hj).2
        · unfold hrA
          rw [up2_s, up2_s, e10]
        · rw [c11, e11, up2_off (by decide), up2_off (by decide), up2_off (by decide), up2_off (by decide), up2_cell]
        · rw [c12, e12, up2_off (by decide), up2_off (by decide), up2_off (by decide), up2_cell, up2_off (by decide)]
        · rw [c13, e13, up2_off (by decide), up2_off (by decide), up2_cell, up2_off (by decide), up2_off (by decide)]
        · rw [c14, e14, up2_off (by decide), up2_cell, up2_off (by decide), up2_off (by decide), up2_off (by decide)]
        · exact p6.c rfl (fun j hj => off _ (by omega) (by omega) (by omega) (by omega) (by omega)) rfl rfl
        · exact p7
      · rw [if_neg hn, if_neg hn]
        exact ⟨h, S⟩
    · rw [if_neg hv, if_neg hv]
      exact ⟨h, S⟩
  · rw [if_neg hc, if_neg hc]
    exact ⟨h, S⟩
end SIM
