/-! ===== the text, by both ===== -/
theorem f48 {v : Int32} {lo hi : Nat} (h9 : hi ≤ 9) : (nI (48 + lo) ≤ v ∧ v ≤ nI (48 + hi)) ↔ (nI lo ≤ v - 48 ∧ v - 48 ≤ nI hi) ∧ lo ≤ 9 ∨ (nI (48 + lo) ≤ v ∧ v ≤ nI (48 + hi)) ∧ 9 < lo := by
  by_cases hl : lo ≤ 9
  · constructor
    · rintro ⟨h1, h2⟩
      have h0 : ¬ v < 0 := by
        intro z
        rw [i_lt, show (0 : Int32).toInt = 0 by decide] at z
        rw [i_le, nI_toInt (by omega)] at h1
        omega
      obtain ⟨k, hk, rfl⟩ := nI_of2 (n := 48 + hi) (nI_toInt (by omega)) h0 h2
      rw [nI_leI (by omega) (by omega)] at h1 h2
      refine Or.inl ⟨?_, hl⟩
      rw [show (48 : Int32) = nI 48 from rfl, pk_sub (by omega), nI_leI (by omega) (by omega), nI_leI (by omega) (by omega)]
      omega
    · rintro (⟨⟨h1, h2⟩, -⟩ | ⟨-, h⟩)
      · have h0 : ¬ v - 48 < 0 := by
          intro z
          rw [i_lt, show (0 : Int32).toInt = 0 by decide] at z
          rw [i_le, nI_toInt (by omega)] at h1
          omega
        obtain ⟨q, hq, e⟩ := nI_of2 (n := hi) (nI_toInt (by omega)) h0 h2
        rw [e, nI_leI (by omega) (by omega)] at h1
        have ev : v = nI (q + 48) := by
          rw [← Int32.sub_add_cancel v 48, e]
          exact nI_add q 48
        rw [ev, nI_leI (by omega) (by omega), nI_leI (by omega) (by omega)]
        omega
      · omega
  · constructor
    · intro h
      exact Or.inr ⟨h, by omega⟩
    · rintro (⟨-, h⟩ | ⟨h, -⟩)
      · omega
      · exact h
/-- a figure of the text, in its bounds -/
def fit (g : Nat → Int32) (n a : Nat) (lo hi : Int32) : Prop := a < n ∧ lo ≤ g a - 48 ∧ g a - 48 ≤ hi
theorem ff_fit {g : Nat → Int32} {n a lo hi : Nat} (hl : lo ≤ 9) (h9 : hi ≤ 9) : (nI (48 + lo) ≤ latN g n a ∧ latN g n a ≤ nI (48 + hi)) ↔ fit g n a (nI lo) (nI hi) := by
  unfold latN fit
  by_cases ha : a < n
  · rw [if_pos ha, f48 h9]
    constructor
    · rintro (⟨h, -⟩ | ⟨-, h⟩)
      · exact ⟨ha, h⟩
      · omega
    · rintro ⟨-, h⟩
      exact Or.inl ⟨h, hl⟩
  · rw [if_neg ha]
    constructor
    · rintro ⟨h, -⟩
      rw [i_le, nI_toInt (by omega), show (0 : Int32).toInt = 0 by decide] at h
      omega
    · rintro ⟨h, -⟩
      exact absurd h ha
theorem ff_yes {g : Nat → Int32} {n a lo hi : Nat} (hl : lo ≤ 9) (h9 : hi ≤ 9) (h : fit g n a (nI lo) (nI hi)) : ffN g n a (nI (48 + lo)) (nI (48 + hi)) = -9 := by
  unfold ffN
  rw [if_pos ((ff_fit hl h9).mpr h)]
theorem ff_no {g : Nat → Int32} {n a lo hi : Nat} (hl : lo ≤ 9) (h9 : hi ≤ 9) (h : ¬ fit g n a (nI lo) (nI hi)) : ffN g n a (nI (48 + lo)) (nI (48 + hi)) = nI a := by
  unfold ffN
  rw [if_neg (fun z => h ((ff_fit hl h9).mp z))]
theorem fit_le9 {g : Nat → Int32} {n a : Nat} (h : fit g n a 0 9) : le9 (g a - 48) := by
  obtain ⟨-, h1, h2⟩ := h
  obtain ⟨q, hq, e⟩ := nI_of2 (x := g a - 48) (M := 9) (n := 9) (by decide) (fun z => by rw [i_lt] at z; rw [i_le] at h1; omega) h2
  exact ⟨q, hq, e⟩
theorem nI_n9 {a : Nat} (h : a < 2 ^ 31) : ¬ nI a = -9 := by
  intro e
  have := nI_toInt h
  rw [e, show (-9 : Int32).toInt = -9 by decide] at this
  omega
/-- the model's reading place -/
def PS (G : FF) (g : Nat → Int32) (a r s : Nat) : Prop := G 0 13 = nI a ∧ a < 60 ∧ G 0 14 = -9 ∧ G 0 9 = nI r ∧ G 0 10 = nI s ∧ G 8 = g
section PARSE
variable {G : FF} {g : Nat → Int32} {n a r s : Nat}
theorem vv_in (P : PS G g a r s) (h : a < n) : vvM G n = g a - 48 := by
  obtain ⟨h1, h2, h3, -, -, h8⟩ := P
  have e : ix (G 0 13) = a := by rw [h1, ix_nI (by omega)]
  unfold vvM
  rw [if_pos ⟨h3, by rw [e]; exact h⟩, e, h8]
theorem vv_out (P : PS G g a r s) (h : ¬ a < n) : vvM G n = -9 := by
  obtain ⟨h1, h2, h3, -, -, h8⟩ := P
  have e : ix (G 0 13) = a := by rw [h1, ix_nI (by omega)]
  unfold vvM
  rw [if_neg (fun z => h (by rw [e] at z; exact z.2))]
theorem n9_lo {lo : Int32} (h0 : 0 ≤ lo) : ¬ lo ≤ -9 := by
  intro z
  rw [i_le] at z h0
  rw [show (-9 : Int32).toInt = -9 by decide] at z
  rw [show (0 : Int32).toInt = 0 by decide] at h0
  omega
theorem fg_ok (P : PS G g a r s) {lo hi : Int32} (hf : fit g n a lo hi) : figV G n lo hi = g a - 48 ∧ figF G n lo hi = up2 G 0 13 (nI (a + 1)) := by
  have hv := vv_in P hf.1
  have e : ix (G 0 13) = a := by rw [P.1, ix_nI (by have := P.2.1; omega)]
  unfold figV figF
  rw [hv, if_pos hf.2, if_pos hf.2, e]
  exact ⟨rfl, rfl⟩
theorem fg_no (P : PS G g a r s) {lo hi : Int32} (h0 : 0 ≤ lo) (hf : ¬ fit g n a lo hi) : figF G n lo hi = up2 G 0 14 (nI a) := by
  have e : ix (G 0 13) = a := by rw [P.1, ix_nI (by have := P.2.1; omega)]
  have hc : ¬ (lo ≤ vvM G n ∧ vvM G n ≤ hi) := by
    by_cases h : a < n
    · rw [vv_in P h]
      exact fun z => hf ⟨h, z⟩
    · rw [vv_out P h]
      exact fun z => n9_lo h0 z.1
  unfold figF
  rw [if_neg hc, if_pos P.2.2.1, e]
theorem fg_dead {lo hi : Int32} (h0 : 0 ≤ lo) (h14 : ¬ G 0 14 = -9) : figF G n lo hi = up2 G 0 14 (G 0 14) := by
  have hv : vvM G n = -9 := by
    unfold vvM
    rw [if_neg (fun z => h14 z.1)]
  unfold figF
  rw [hv, if_neg (fun z => n9_lo h0 z.1), if_neg h14]
theorem fx_ok (P : PS G g a r s) {lo hi : Int32} (hf : fit g n a lo hi) {q c : Nat} (hq : q ≠ 0) (hq8 : q ≠ 8) (ha : a + 1 < 60) : PS (up2 (figF G n lo hi) q c (figV G n lo hi)) g (a + 1) r s ∧ up2 (figF G n lo hi) q c (figV G n lo hi) q = upd (G q) c (g a - 48) ∧ ∀ p, p ≠ 0 → p ≠ q → up2 (figF G n lo hi) q c (figV G n lo hi) p = G p := by
  obtain ⟨e1, e2⟩ := fg_ok P hf
  obtain ⟨-, -, h3, h4, h5, h8⟩ := P
  rw [e1, e2]
  have q0 : ∀ k, up2 (up2 G 0 13 (nI (a + 1))) q c (g a - 48) 0 k = up2 G 0 13 (nI (a + 1)) 0 k := fun k => up2_n _ _ (Or.inl (fun z => hq z.symm))
  refine ⟨⟨?_, ha, ?_, ?_, ?_, ?_⟩, ?_, fun p h1 h2 => ?_⟩
  · rw [q0, up2_s]
  · rw [q0, up2_n _ _ (Or.inr (by decide)), h3]
  · rw [q0, up2_n _ _ (Or.inr (by decide)), h4]
  · rw [q0, up2_n _ _ (Or.inr (by decide)), h5]
  · rw [up2_off (fun z => hq8 z.symm), up2_off (by decide), h8]
  · funext k
    rw [up2_at, up2_n _ _ (Or.inl hq)]
    unfold upd
    by_cases hk : k = c
    · rw [if_pos ⟨rfl, hk⟩, if_pos hk]
    · rw [if_neg (fun z => hk z.2), if_neg hk]
  · rw [up2_off h2, up2_off h1]
theorem fx_no (P : PS G g a r s) {lo hi : Int32} (h0 : 0 ≤ lo) (hf : ¬ fit g n a lo hi) {q c : Nat} {v : Int32} (hq : q ≠ 0) : up2 (figF G n lo hi) q c v 0 14 = nI a := by
  rw [up2_n _ _ (Or.inl (fun z => hq z.symm)), fg_no P h0 hf, up2_s]
theorem fx_dead {e lo hi : Int32} (h0 : 0 ≤ lo) (h14 : G 0 14 = e) (he : ¬ e = -9) {q c : Nat} {v : Int32} (hq : q ≠ 0) : up2 (figF G n lo hi) q c v 0 14 = e := by
  rw [up2_n _ _ (Or.inl (fun z => hq z.symm)), fg_dead h0 (by rw [h14]; exact he), up2_s, h14]
theorem rd1_PS (P : PS G g a r s) (ha : a + 1 < 60) : PS (rd1 G) g (a + 1) r s ∧ ∀ p, p ≠ 0 → rd1 G p = G p := by
  have e : ix (G 0 13) = a := by rw [P.1, ix_nI (by have := P.2.1; omega)]
  obtain ⟨-, -, h3, h4, h5, h8⟩ := P
  unfold rd1
  rw [e]
  refine ⟨⟨up2_s _ _ _ _, ha, ?_, ?_, ?_, ?_⟩, fun p hp => up2_off hp⟩
  · rw [up2_n _ _ (Or.inr (by decide)), h3]
  · rw [up2_n _ _ (Or.inr (by decide)), h4]
  · rw [up2_n _ _ (Or.inr (by decide)), h5]
  · rw [up2_off (by decide), h8]
theorem rd_ok (P : PS G g a r s) (ha : a + 4 < 60) (f1 : fit g n (a + 1) 0 9) (f2 : fit g n (a + 2) 1 9) (f3 : fit g n (a + 3) 0 3) :
    PS (rd5 G n r) g (a + 4) (r + 1) s ∧ rd5 G n r 6 = upd (upd (upd (G 6) (3 * r) (g (a + 1) - 48)) (3 * r + 1) (g (a + 2) - 48)) (3 * r + 2) (g (a + 3) - 48) ∧ ∀ p, p ≠ 0 → p ≠ 6 → rd5 G n r p = G p := by
  obtain ⟨P1, o1⟩ := rd1_PS P (by omega)
  obtain ⟨P2, e2, o2⟩ := fx_ok P1 f1 (q := 6) (c := 3 * r) (by decide) (by decide) (by omega)
  obtain ⟨P3, e3, o3⟩ := fx_ok P2 f2 (q := 6) (c := 3 * r + 1) (by decide) (by decide) (by omega)
  obtain ⟨P4, e4, o4⟩ := fx_ok P3 f3 (q := 6) (c := 3 * r + 2) (by decide) (by decide) (by omega)
  have P4' : PS (rd4 G n r) g (a + 4) r s := P4
  have e4' : rd4 G n r 6 = upd (upd (upd (G 6) (3 * r) (g (a + 1) - 48)) (3 * r + 1) (g (a + 2) - 48)) (3 * r + 2) (g (a + 3) - 48) := by
    refine e4.trans ?_
    rw [e3, e2, o1 6 (by decide)]
  have o4' : ∀ p, p ≠ 0 → p ≠ 6 → rd4 G n r p = G p := fun p h0 h6 => (o4 p h0 h6).trans ((o3 p h0 h6).trans ((o2 p h0 h6).trans (o1 p h0)))
  obtain ⟨h1, h2, h3, -, h5, h8⟩ := P4'
  unfold rd5
  refine ⟨⟨?_, h2, ?_, up2_s _ _ _ _, ?_, ?_⟩, ?_, fun p h0 h6 => ?_⟩
  · rw [up2_n _ _ (Or.inr (by decide)), h1]
  · rw [up2_n _ _ (Or.inr (by decide)), h3]
  · rw [up2_n _ _ (Or.inr (by decide)), h5]
  · rw [up2_off (by decide), h8]
  · rw [up2_off (by decide), e4']
  · rw [up2_off h0, o4' p h0 h6]
theorem rf_ok (f1 : fit g n a 0 9) (f2 : fit g n (a + 1) 1 9) (f3 : fit g n (a + 2) 0 3) : rfN g n a = -9 := by
  have e1 : ffN g n a 48 57 = -9 := ff_yes (lo := 0) (hi := 9) (by decide) (by decide) f1
  have e2 : ffN g n (a + 1) 49 57 = -9 := ff_yes (lo := 1) (hi := 9) (by decide) (by decide) f2
  have e3 : ffN g n (a + 2) 48 51 = -9 := ff_yes (lo := 0) (hi := 3) (by decide) (by decide) f3
  unfold rfN
  rw [if_pos e1, if_pos e2, e3]
theorem rd_no (P : PS G g a r s) (ha : a + 4 < 60) (hf : ¬ (fit g n (a + 1) 0 9 ∧ fit g n (a + 2) 1 9 ∧ fit g n (a + 3) 0 3)) : rd5 G n r 0 14 = rfN g n (a + 1) ∧ ¬ rfN g n (a + 1) = -9 := by
  obtain ⟨P1, -⟩ := rd1_PS P (by omega)
  have top : rd5 G n r 0 14 = rd4 G n r 0 14 := by
    unfold rd5
    rw [up2_n _ _ (Or.inr (by decide))]
  rw [top]
  unfold rfN
  by_cases f1 : fit g n (a + 1) 0 9
  · obtain ⟨P2, -, -⟩ := fx_ok P1 f1 (q := 6) (c := 3 * r) (by decide) (by decide) (by omega)
    have e1 : ffN g n (a + 1) 48 57 = -9 := ff_yes (lo := 0) (hi := 9) (by decide) (by decide) f1
    rw [if_pos e1]
    by_cases f2 : fit g n (a + 2) 1 9
    · obtain ⟨P3, -, -⟩ := fx_ok P2 f2 (q := 6) (c := 3 * r + 1) (by decide) (by decide) (by omega)
      have e2 : ffN g n (a + 1 + 1) 49 57 = -9 := ff_yes (lo := 1) (hi := 9) (by decide) (by decide) f2
      have f3 : ¬ fit g n (a + 3) 0 3 := fun z => hf ⟨f1, f2, z⟩
      have e3 : ffN g n (a + 1 + 2) 48 51 = nI (a + 3) := ff_no (lo := 0) (hi := 3) (by decide) (by decide) f3
      rw [if_pos e2, e3]
      exact ⟨fx_no P3 (by decide) f3 (by decide), nI_n9 (by omega)⟩
    · have e2 : ffN g n (a + 1 + 1) 49 57 = nI (a + 2) := ff_no (lo := 1) (hi := 9) (by decide) (by decide) f2
      have h3 : rd3 G n r 0 14 = nI (a + 2) := fx_no P2 (by decide) f2 (by decide)
      rw [e2, if_neg (nI_n9 (by omega))]
      exact ⟨fx_dead (by decide) h3 (nI_n9 (by omega)) (by decide), nI_n9 (by omega)⟩
  · have e1 : ffN g n (a + 1) 48 57 = nI (a + 1) := ff_no (lo := 0) (hi := 9) (by decide) (by decide) f1
    have h2 : rd2 G n r 0 14 = nI (a + 1) := fx_no P1 (by decide) f1 (by decide)
    have h3 : rd3 G n r 0 14 = nI (a + 1) := fx_dead (by decide) h2 (nI_n9 (by omega)) (by decide)
    rw [e1, if_neg (nI_n9 (by omega))]
    exact ⟨fx_dead (by decide) h3 (nI_n9 (by omega)) (by decide), nI_n9 (by omega)⟩
theorem sm_ok (P : PS G g a r s) (ha : a + 2 < 60) (f1 : fit g n (a + 1) 0 9) : PS (sm3 G n s) g (a + 2) r (s + 1) ∧ sm3 G n s 7 = upd (G 7) s (g (a + 1) - 48) ∧ ∀ p, p ≠ 0 → p ≠ 7 → sm3 G n s p = G p := by
  obtain ⟨P1, o1⟩ := rd1_PS P (by omega)
  obtain ⟨P2, e2, o2⟩ := fx_ok P1 f1 (q := 7) (c := s) (by decide) (by decide) (by omega)
  have P2' : PS (sm2 G n s) g (a + 2) r s := P2
  have e2' : sm2 G n s 7 = upd (G 7) s (g (a + 1) - 48) := e2.trans (by rw [o1 7 (by decide)])
  have o2' : ∀ p, p ≠ 0 → p ≠ 7 → sm2 G n s p = G p := fun p h0 h7 => (o2 p h0 h7).trans (o1 p h0)
  obtain ⟨h1, h2, h3, h4, -, h8⟩ := P2'
  unfold sm3
  refine ⟨⟨?_, h2, ?_, ?_, up2_s _ _ _ _, ?_⟩, ?_, fun p h0 h7 => ?_⟩
  · rw [up2_n _ _ (Or.inr (by decide)), h1]
  · rw [up2_n _ _ (Or.inr (by decide)), h3]
  · rw [up2_n _ _ (Or.inr (by decide)), h4]
  · rw [up2_off (by decide), h8]
  · rw [up2_off (by decide), e2']
  · rw [up2_off h0, o2' p h0 h7]
theorem sm_no (P : PS G g a r s) (ha : a + 2 < 60) (f1 : ¬ fit g n (a + 1) 0 9) : sm3 G n s 0 14 = nI (a + 1) := by
  obtain ⟨P1, -⟩ := rd1_PS P (by omega)
  have h2 : sm2 G n s 0 14 = nI (a + 1) := fx_no P1 (by decide) f1 (by decide)
  unfold sm3
  rw [up2_n _ _ (Or.inr (by decide)), h2]
theorem rtN_stop (h : ¬ G 0 14 = -9) : ∀ f, rtN n f G = G
  | 0 => rfl
  | f + 1 => by rw [rtN, if_neg (fun z => h z.1)]
end PARSE
/-- the room under way, by both -/
def MK (F G : FF) (r s : Nat) (e1 e2 e3 e4 : Nat → Int32) : Prop :=
  (F 3 4 = nI r ∧ F 3 5 = nI s) ∧ (F 4 = ovl e1 0 (fun k => G 6 (3 * k)) r ∧ F 5 = ovl e2 0 (fun k => G 6 (3 * k + 1)) r ∧ F 6 = ovl e3 0 (fun k => G 6 (3 * k + 2)) r ∧ F 7 = ovl e4 0 (G 7) s) ∧ (∀ i, i < r → le9 (F 4 i)) ∧ ∀ j, j < s → le9 (F 7 j)
theorem ovl_z0 (e f : Nat → Int32) : ovl e 0 f 0 = e := by
  funext k
  unfold ovl
  rw [if_neg (by omega)]
theorem ovl_push {e f f' : Nat → Int32} {r : Nat} {v : Int32} (hr : f' r = v) (hf : ∀ k, k < r → f' k = f k) : upd (ovl e 0 f r) r v = ovl e 0 f' (r + 1) := by
  funext k
  unfold upd ovl
  by_cases h : k = r
  · subst h
    rw [if_pos rfl, if_pos (by omega), Nat.sub_zero, hr]
  · rw [if_neg h]
    by_cases h2 : k < r
    · rw [if_pos (by omega), if_pos (by omega), Nat.sub_zero, hf k h2]
    · rw [if_neg (by omega), if_neg (by omega)]
theorem up2_cell (F : FF) (i j : Nat) (v : Int32) : up2 F i j v i = upd (F i) j v := by
  funext k
  unfold up2 upF
  rw [if_pos rfl]
theorem MK_r {F G G' : FF} {g : Nat → Int32} {n a r s : Nat} {e1 e2 e3 e4 : Nat → Int32} (M : MK F G r s e1 e2 e3 e4) (f1 : fit g n (a + 1) 0 9) (f2 : fit g n (a + 2) 1 9) (f3 : fit g n (a + 3) 0 3)
    (h6 : G' 6 = upd (upd (upd (G 6) (3 * r) (g (a + 1) - 48)) (3 * r + 1) (g (a + 2) - 48)) (3 * r + 2) (g (a + 3) - 48)) (h7 : G' 7 = G 7) : MK (addR F g n (a + 1) r) G' (r + 1) s e1 e2 e3 e4 := by
  obtain ⟨⟨m1, m2⟩, ⟨m4, m5, m6, m7⟩, l1, l2⟩ := M
  have t1 : latN g n (a + 1) = g (a + 1) := if_pos f1.1
  have t2 : latN g n (a + 1 + 1) = g (a + 2) := if_pos f2.1
  have t3 : latN g n (a + 1 + 2) = g (a + 3) := if_pos f3.1
  have v6 : ∀ k, G' 6 k = if k = 3 * r + 2 then g (a + 3) - 48 else if k = 3 * r + 1 then g (a + 2) - 48 else if k = 3 * r then g (a + 1) - 48 else G 6 k := by
    intro k
    rw [h6]
    rfl
  have c4 : addR F g n (a + 1) r 4 = upd (F 4) r (g (a + 1) - 48) := by
    unfold addR
    rw [up2_off (by decide), up2_off (by decide), up2_off (by decide), up2_cell, t1]
  have c5 : addR F g n (a + 1) r 5 = upd (F 5) r (g (a + 2) - 48) := by
    unfold addR
    rw [up2_off (by decide), up2_off (by decide), up2_cell, up2_off (by decide), t2]
  have c6 : addR F g n (a + 1) r 6 = upd (F 6) r (g (a + 3) - 48) := by
    unfold addR
    rw [up2_off (by decide), up2_cell, up2_off (by decide), up2_off (by decide), t3]
  have c7 : addR F g n (a + 1) r 7 = F 7 := by
    unfold addR
    rw [up2_off (by decide), up2_off (by decide), up2_off (by decide), up2_off (by decide)]
  refine ⟨⟨?_, ?_⟩, ⟨?_, ?_, ?_, ?_⟩, fun i hi => ?_, ?_⟩
  · unfold addR
    rw [up2_s]
  · unfold addR
    rw [up2_n _ _ (Or.inr (by decide)), up2_n _ _ (Or.inl (by decide)), up2_n _ _ (Or.inl (by decide)), up2_n _ _ (Or.inl (by decide)), m2]
  · rw [c4, m4]
    refine ovl_push ?_ (fun k hk => ?_)
    · rw [v6, if_neg (by omega), if_neg (by omega), if_pos rfl]
    · show G' 6 (3 * k) = G 6 (3 * k)
      rw [v6, if_neg (by omega), if_neg (by omega), if_neg (by omega)]
  · rw [c5, m5]
    refine ovl_push ?_ (fun k hk => ?_)
    · rw [v6, if_neg (by omega), if_pos rfl]
    · show G' 6 (3 * k + 1) = G 6 (3 * k + 1)
      rw [v6, if_neg (by omega), if_neg (by omega), if_neg (by omega)]
  · rw [c6, m6]
    refine ovl_push ?_ (fun k hk => ?_)
    · rw [v6, if_pos rfl]
    · show G' 6 (3 * k + 2) = G 6 (3 * k + 2)
      rw [v6, if_neg (by omega), if_neg (by omega), if_neg (by omega)]
  · rw [c7, m7, h7]
  · rw [c4]
    unfold upd
    by_cases e : i = r
    · rw [if_pos e]
      exact fit_le9 f1
    · rw [if_neg e]
      exact l1 i (by omega)
  · rw [c7]
    exact l2
theorem MK_s {F G G' : FF} {g : Nat → Int32} {n a r s : Nat} {e1 e2 e3 e4 : Nat → Int32} (M : MK F G r s e1 e2 e3 e4) (f1 : fit g n (a + 1) 0 9) (h7 : G' 7 = upd (G 7) s (g (a + 1) - 48)) (h6 : G' 6 = G 6) : MK (addS F (latN g n (a + 1) - 48) s) G' r (s + 1) e1 e2 e3 e4 := by
  obtain ⟨⟨m1, m2⟩, ⟨m4, m5, m6, m7⟩, l1, l2⟩ := M
  have t1 : latN g n (a + 1) = g (a + 1) := if_pos f1.1
  rw [t1]
  have co : ∀ c, c ≠ 3 → c ≠ 7 → addS F (g (a + 1) - 48) s c = F c := fun c h3 h7 => by
    unfold addS
    rw [up2_off h3, up2_off h7]
  have c7 : addS F (g (a + 1) - 48) s 7 = upd (F 7) s (g (a + 1) - 48) := by
    unfold addS
    rw [up2_off (by decide), up2_cell]
  refine ⟨⟨?_, ?_⟩, ⟨?_, ?_, ?_, ?_⟩, ?_, fun i hi => ?_⟩
  · unfold addS
    rw [up2_n _ _ (Or.inr (by decide)), up2_n _ _ (Or.inl (by decide)), m1]
  · unfold addS
    rw [up2_s]
  · rw [co 4 (by decide) (by decide), m4, h6]
  · rw [co 5 (by decide) (by decide), m5, h6]
  · rw [co 6 (by decide) (by decide), m6, h6]
  · rw [c7, m7]
    refine ovl_push ?_ (fun k hk => ?_)
    · rw [h7]
      unfold upd
      rw [if_pos rfl]
    · rw [h7]
      unfold upd
      rw [if_neg (by omega)]
  · rw [co 4 (by decide) (by decide)]
    exact l1
  · rw [c7]
    unfold upd
    by_cases e : i = s
    · rw [if_pos e]
      exact fit_le9 f1
    · rw [if_neg e]
      exact l2 i (by omega)
theorem rt_step {G : FF} {g : Nat → Int32} {n a r s : Nat} (P : PS G g a r s) (h : a < n) (hr : r ≤ 5) (hs : s ≤ 4) : ∀ f, rtN n (f + 1) G = rtN n f (if g a = 82 ∧ r < 5 then rd5 G n r else if g a = 83 ∧ s < 4 then sm3 G n s else up2 G 0 14 (nI a)) := by
  intro f
  have e : ix (G 0 13) = a := by rw [P.1, ix_nI (by have := P.2.1; omega)]
  have er : ix (G 0 9) = r := by rw [P.2.2.2.1, ix_nI (by omega)]
  have es : ix (G 0 10) = s := by rw [P.2.2.2.2.1, ix_nI (by omega)]
  rw [rtN, if_pos ⟨P.2.2.1, by rw [e]; exact h⟩]
  unfold rtS
  rw [e, er, es, P.2.2.2.2.2]
theorem scan_eq {g : Nat → Int32} {n : Nat} (hn : n ≤ 36) {e1 e2 e3 e4 : Nat → Int32} : ∀ (f a r s : Nat) (G F : FF), PS G g a r s → n ≤ a + f → r ≤ 5 → s ≤ 4 → MK F G r s e1 e2 e3 e4 →
    rtN n (f + 4) G 0 14 = scanN g n f a r s ∧ (scanN g n f a r s = -9 → ∃ r' s', r' ≤ 5 ∧ s' ≤ 4 ∧ rtN n (f + 4) G 0 9 = nI r' ∧ rtN n (f + 4) G 0 10 = nI s' ∧ MK (makeN g n f a r s F) (rtN n (f + 4) G) r' s' e1 e2 e3 e4)
  | 0, a, r, s, G, F, P, hf, hr, hs, M => by
    have e : ix (G 0 13) = a := by rw [P.1, ix_nI (by have := P.2.1; omega)]
    have z : rtN n (0 + 4) G = G := by
      show rtN n (3 + 1) G = G
      rw [rtN, if_neg (fun z => by rw [e] at z; omega)]
    rw [z]
    exact ⟨P.2.2.1, fun _ => ⟨r, s, hr, hs, P.2.2.2.1, P.2.2.2.2.1, M⟩⟩
  | f + 1, a, r, s, G, F, P, hf, hr, hs, M => by
    have e : ix (G 0 13) = a := by rw [P.1, ix_nI (by have := P.2.1; omega)]
    rw [scanN, makeN]
    by_cases h : a < n
    · rw [if_pos h, if_pos h]
      have hst := rt_step P h hr hs (f + 4)
      rw [show f + 1 + 4 = f + 4 + 1 by omega, hst]
      have tl : latN g n a = g a := if_pos h
      rw [tl]
      by_cases hR : g a = 82 ∧ r < 5
      · rw [if_pos hR, if_pos hR, if_pos hR.1, if_pos hR.2]
        by_cases hfit : fit g n (a + 1) 0 9 ∧ fit g n (a + 2) 1 9 ∧ fit g n (a + 3) 0 3
        · obtain ⟨f1, f2, f3⟩ := hfit
          obtain ⟨P', h6, ho⟩ := rd_ok P (by omega) f1 f2 f3
          rw [if_pos (rf_ok f1 f2 f3)]
          exact scan_eq hn f (a + 4) (r + 1) s _ _ P' (by omega) (by omega) hs (MK_r M f1 f2 f3 h6 (ho 7 (by decide) (by decide)))
        · obtain ⟨n1, n2⟩ := rd_no P (by omega) hfit
          rw [if_neg n2, rtN_stop (by rw [n1]; exact n2)]
          exact ⟨n1, fun z => absurd z n2⟩
      · rw [if_neg hR, if_neg hR]
        by_cases hS : g a = 83 ∧ s < 4
        · rw [if_pos hS, if_pos hS, if_neg (show ¬ g a = 82 by rw [hS.1]; decide), if_pos hS.2]
          by_cases f1 : fit g n (a + 1) 0 9
          · obtain ⟨P', h7, ho⟩ := sm_ok P (by omega) f1
            have e1' : ffN g n (a + 1) 48 57 = -9 := ff_yes (lo := 0) (hi := 9) (by decide) (by decide) f1
            rw [if_pos e1']
            exact scan_eq hn f (a + 2) r (s + 1) _ _ P' (by omega) hr (by omega) (MK_s M f1 h7 (ho 6 (by decide) (by decide)))
          · have n1 := sm_no P (by omega) f1
            have e1' : ffN g n (a + 1) 48 57 = nI (a + 1) := ff_no (lo := 0) (hi := 9) (by decide) (by decide) f1
            have n2 := nI_n9 (a := a + 1) (by omega)
            rw [e1', if_neg n2, rtN_stop (by rw [n1]; exact n2)]
            exact ⟨n1, fun z => absurd z n2⟩
        · rw [if_neg hS, if_neg hS]
          have n2 := nI_n9 (a := a) (by omega)
          rw [rtN_stop (by rw [up2_s]; exact n2), up2_s]
          exact ⟨rfl, fun z => absurd z n2⟩
    · rw [if_neg h, if_neg h]
      have z : rtN n (f + 1 + 4) G = G := by
        show rtN n (f + 4 + 1) G = G
        rw [rtN, if_neg (fun z => by rw [e] at z; omega)]
      rw [z]
      exact ⟨P.2.2.1, fun _ => ⟨r, s, hr, hs, P.2.2.2.1, P.2.2.2.2.1, M⟩⟩
