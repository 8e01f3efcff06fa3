/-! ===== Heard, Acts ===== -/
/-- all truths of benches are 0 or 1 -/
def BZ (F : FF) : Prop := ∀ b, 19 ≤ b → b < 37 → (F b 3 = 0 ∨ F b 3 = 1) ∧ (F b 4 = 0 ∨ F b 4 = 1)
def tru (v : Int32) : Bool := decide (v = 1)
theorem tru_b2 {v : Int32} (h : v = 0 ∨ v = 1) : v = b2 (tru v) := by rcases h with rfl | rfl <;> decide
theorem tru_of (b : Bool) : tru (b2 b) = b := by cases b <;> decide
theorem BZ.bb {F : FF} (h : BZ F) {b : Nat} (h1 : 19 ≤ b) (h2 : b < 37) : BB F b (tru (F b 3)) (tru (F b 4)) := ⟨h1, h2, tru_b2 (h b h1 h2).1, tru_b2 (h b h1 h2).2⟩
theorem cpB_n (F : FF) {b c a : Nat} (k : Nat) (h : a ≠ b) : cpB F b c a k = F a k := by
  unfold cpB
  rw [up2_n _ _ (Or.inl h), up2_n _ _ (Or.inl h), up2_n _ _ (Or.inl h), up2_n _ _ (Or.inl h), up2_n _ _ (Or.inl h)]
/-- how much is heard -/
def HD (F : FF) (h : Nat) : Prop := F 10 4 = nI h ∧ h ≤ 6 ∧ ∀ j, j < 6 → (F 13 j = 0 ∨ F 13 j = 1) ∧ (F 14 j = 0 ∨ F 14 j = 1)
def hrA (F : FF) (h : Nat) (r s p y : Int32) : FF := up2 (up2 (up2 (up2 (up2 F 11 h r) 12 h s) 13 h p) 14 h y) 10 4 (F 10 4 + 1)
def okH (F : FF) (ns i : Nat) (e : Int32) (j : Nat) : Bool := !(decide (F 11 j = nI i) && hasB (F 12 j) ns) || (saysB (F 6 i) (F 5 i) (sees (F 6 i) e (lits (tru (F 13 j)) (F 7 (F 12 j).toNatClampNeg)) 0 true) == tru (F 14 j))
def agN (F : FF) (ns i : Nat) (e : Int32) : Nat → Bool
  | 0 => true
  | m + 1 => agN F ns i e m && okH F ns i e m
theorem agN_f {F : FF} {ns i : Nat} {e : Int32} {m : Nat} (h : agN F ns i e m = false) : ∀ k, agN F ns i e (m + k) = false
  | 0 => h
  | k + 1 => by rw [← Nat.add_assoc, agN, agN_f h k]; rfl
/-- the row of acts -/
def AC (F : FF) (nx sz : Nat) : Prop := F 8 1 = nI nx ∧ F 8 2 = nI sz ∧ nx < 14 ∧ sz ≤ 14
def nxtI (v : Int32) : Int32 := if 14 ≤ v + 1 then 0 else v + 1
def inc14 (v : Int32) : Int32 := if v + 1 < 14 then v + 1 else 14
def rmB (F : FF) (nx : Nat) : FF := up2 (up2 (cpB F (nx + 20) 19) 8 1 (nxtI (F 8 1))) 8 2 (inc14 (F 8 2))
def prv (nx : Nat) : Nat := if 0 < nx then nx - 1 else 13
def tbB (F : FF) (nx : Nat) : FF := cpB (up2 (up2 F 8 1 (nI (prv nx))) 8 2 (F 8 2 - 1)) 19 (prv nx + 20)

set_option maxHeartbeats 4000000 in
theorem k_X2_append (l : Launch) (F : FF) (L : Int64) (h : Nat) (r s : Int32) (p y : Bool) (hH : HD F h) : CI l yX2_append cX2_append 5 (some .boolean) (rmx 0 0) wN [.ref 10, .int r, .int s, .int (b2 p), .int (b2 y)] F L (b2 (decide (h < 6))) (if h < 6 then hrA F h r s (b2 p) (b2 y) else F) L := by
  refine mkI [some (.ref 10), some (.int r), some (.int s), some (.int (b2 p)), some (.int (b2 y))] 0 (by decide) rfl (Nat.le_of_ble_eq_true rfl) ?_
  intro x d hx hC
  subst hx
  have hC : Cx x cX2_append 5 RX2 (some .boolean) (rmx 0 0) wN d := hC
  obtain ⟨e4, h6, -⟩ := hH
  refine WP.aln (pc := 0) hC dX2_append_0 rfl ?_
  refine WP.gf (pc := 1) hC dX2_append_1 fl_X2_25 (by decide) rfl rfl ?_
  refine WP.iflt (pc := 4) hC dX2_append_4 16 (by decide) (fun h4 => ?_) (fun h4 => ?_)
  · have h9 : ¬ h < 6 := by
      intro q
      first | exact absurd h13 (by rw [e4]; exact fun z => z (nI_lt q (by decide))) | exact absurd h4 (by rw [e4]; exact nI_pos (by omega))
    refine WP.iconst (pc := 16) hC dX2_append_16 0 (by decide) ?_
    refine WP.zret (pc := 17) hC rfl (by first | exact Or.inl rfl | exact Or.inr rfl | exact b2_01 _) dX2_append_17 ?_ ?_ ?_
    all_goals (first | rfl | (rw [if_pos h9]; rfl) | (rw [if_neg h9]) | (simp [b2, h9]; done))
  · refine WP.aln (pc := 7) hC dX2_append_7 rfl ?_
    refine WP.gf (pc := 8) hC dX2_append_8 fl_X2_25 (by decide) rfl rfl ?_
    refine WP.bipush (pc := 11) hC dX2_append_11 6 (by decide) ?_
    refine WP.iclt (pc := 13) hC dX2_append_13 18 (by decide) (fun h13 => ?_) (fun h13 => ?_)
    · have h9 : h < 6 := by
        rw [e4] at h13
        exact (nI_ltI (by omega) (by decide)).mp h13
      refine WP.aln (pc := 18) hC dX2_append_18 rfl ?_
      refine WP.gf (pc := 19) hC dX2_append_19 fl_X2_9 (by decide) rfl rfl ?_
      refine WP.aln (pc := 22) hC dX2_append_22 rfl ?_
      refine WP.gf (pc := 23) hC dX2_append_23 fl_X2_25 (by decide) rfl rfl ?_
      refine WP.iln (pc := 26) hC dX2_append_26 rfl ?_
      refine WP.ias (pc := 27) hC dX2_append_27 h e4 h9 (by decide) rfl rfl (by decide) ?_
      refine WP.aln (pc := 28) hC dX2_append_28 rfl ?_
      refine WP.gf (pc := 29) hC dX2_append_29 fl_X2_15 (by decide) rfl rfl ?_
      refine WP.aln (pc := 32) hC dX2_append_32 rfl ?_
      refine WP.gf (pc := 33) hC dX2_append_33 fl_X2_25 (by decide) rfl rfl ?_
      refine WP.iln (pc := 36) hC dX2_append_36 rfl ?_
      refine WP.ias (pc := 37) hC dX2_append_37 h e4 h9 (by decide) rfl rfl (by decide) ?_
      refine WP.aln (pc := 38) hC dX2_append_38 rfl ?_
      refine WP.gf (pc := 39) hC dX2_append_39 fl_X2_18 (by decide) rfl rfl ?_
      refine WP.aln (pc := 42) hC dX2_append_42 rfl ?_
      refine WP.gf (pc := 43) hC dX2_append_43 fl_X2_25 (by decide) rfl rfl ?_
      refine WP.iln (pc := 46) hC dX2_append_46 rfl ?_
      refine WP.zas (pc := 47) hC dX2_append_47 h e4 h9 (b2_01 p) (by decide) rfl rfl (by decide) ?_
      refine WP.aln (pc := 48) hC dX2_append_48 rfl ?_
      refine WP.gf (pc := 49) hC dX2_append_49 fl_X2_22 (by decide) rfl rfl ?_
      refine WP.aln (pc := 52) hC dX2_append_52 rfl ?_
      refine WP.gf (pc := 53) hC dX2_append_53 fl_X2_25 (by decide) rfl rfl ?_
      refine WP.il (pc := 56) hC dX2_append_56 rfl ?_
      refine WP.zas (pc := 58) hC dX2_append_58 h e4 h9 (b2_01 y) (by decide) rfl rfl (by decide) ?_
      refine WP.aln (pc := 59) hC dX2_append_59 rfl ?_
      refine WP.dup (pc := 60) hC dX2_append_60 rfl ?_
      refine WP.gf (pc := 61) hC dX2_append_61 fl_X2_25 (by decide) rfl rfl ?_
      refine WP.iconst (pc := 64) hC dX2_append_64 1 (by decide) ?_
      refine WP.iadd (pc := 65) hC dX2_append_65 ?_
      refine WP.pf (pc := 66) hC dX2_append_66 fp_X2_25 rfl rfl (by decide) rfl rfl (Nat.le_of_ble_eq_true rfl) ?_
      refine WP.iconst (pc := 69) hC dX2_append_69 1 (by decide) ?_
      refine WP.zret (pc := 70) hC rfl (by first | exact Or.inl rfl | exact Or.inr rfl | exact b2_01 _) dX2_append_70 ?_ ?_ ?_
      all_goals (first | rfl | (rw [if_pos h9]; rfl) | (rw [if_neg h9]) | (simp [b2, h9]; done))
    · have h9 : ¬ h < 6 := by
        intro q
        first | exact absurd h13 (by rw [e4]; exact fun z => z (nI_lt q (by decide))) | exact absurd h4 (by rw [e4]; exact nI_pos (by omega))
      refine WP.iconst (pc := 16) hC dX2_append_16 0 (by decide) ?_
      refine WP.zret (pc := 17) hC rfl (by first | exact Or.inl rfl | exact Or.inr rfl | exact b2_01 _) dX2_append_17 ?_ ?_ ?_
      all_goals (first | rfl | (rw [if_pos h9]; rfl) | (rw [if_neg h9]) | (simp [b2, h9]; done))
theorem b2_inj {a b : Bool} (h : b2 a = b2 b) : a = b := by cases a <;> cases b <;> simp_all [b2]
set_option maxHeartbeats 4000000 in
theorem k_X2_agrees (l : Launch) (F : FF) (L : Int64) (h nr ns i : Nat) (e : Int32) (hH : HD F h) (hN : NR F nr ns) (hi : i < nr) : CI l yX2_agrees cX2_agrees 6 (some .boolean) (rmx 3 70) wN [.ref 10, .ref 3, .int (nI i), .int e] F L (b2 (agN F ns i e h)) F L := by
  refine mkI [some (.ref 10), some (.ref 3), some (.int (nI i)), some (.int e), none, none] 2 (by decide) rfl (Nat.le_of_ble_eq_true rfl) ?_
  intro x d hx hC
  subst hx
  have hC : Cx x cX2_agrees 6 RX2 (some .boolean) (rmx 3 70) wN d := hC
  obtain ⟨e4, h6, hz⟩ := hH
  have loop : ∀ j, j ≤ h → ∀ a5 : Option Value, agN F ns i e j = true → WP x 6 wN d (QI x wN d (b2 (agN F ns i e h)) F L) 3 [some (.ref 10), some (.ref 3), some (.int (nI i)), some (.int e), some (.int (nI j)), a5] [] F L := by
    refine loop_c (n := h) (P := fun j => ∀ a5 : Option Value, agN F ns i e j = true → WP x 6 wN d (QI x wN d (b2 (agN F ns i e h)) F L) 3 [some (.ref 10), some (.ref 3), some (.int (nI i)), some (.int e), some (.int (nI j)), a5] [] F L) ?_
    intro j hj0 ih a5 ha
    refine WP.il (pc := 3) hC dX2_agrees_3 rfl ?_
    refine WP.aln (pc := 5) hC dX2_agrees_5 rfl ?_
    refine WP.gf (pc := 6) hC dX2_agrees_6 fl_X2_25 (by decide) rfl rfl ?_
    refine WP.icge (pc := 9) hC dX2_agrees_9 86 (by decide) (fun h9 => ?_) (fun h9 => ?_)
    · have hj9 : j = h := by
        have h9 := h9
        rw [e4] at h9
        have := (nI_leI (by omega) (by omega)).mp h9
        omega
      subst hj9
      refine WP.iconst (pc := 86) hC dX2_agrees_86 1 (by decide) ?_
      refine WP.zret (pc := 87) hC rfl (by first | exact Or.inl rfl | exact Or.inr rfl | exact b2_01 _) dX2_agrees_87 ?_ ?_ ?_
      all_goals (first | rfl | (rw [ha]; rfl))
    · have hj : j < h := by
        have h9 := h9
        rw [e4] at h9
        exact (nI_ltI (by omega) (by omega)).mp (i_nle.mp h9)
      have hz := hz j (by omega)
      have hv := ih hj
      refine WP.aln (pc := 12) hC dX2_agrees_12 rfl ?_
      refine WP.gf (pc := 13) hC dX2_agrees_13 fl_X2_9 (by decide) rfl rfl ?_
      refine WP.il (pc := 16) hC dX2_agrees_16 rfl ?_
      refine WP.ial (pc := 18) hC dX2_agrees_18 j rfl (by omega) (by decide) rfl (by decide) ?_
      refine WP.iln (pc := 19) hC dX2_agrees_19 rfl ?_
      refine WP.icne (pc := 20) hC dX2_agrees_20 80 (by decide) (fun h20 => ?_) (fun h20 => ?_)
      · have ho : okH F ns i e j = true := by
          first | (simp [okH, h20]; done) | (rw [b2_0] at h34; simp [okH, h34]; done) | (have h75 := b2_inj h75; simp [okH, h20, h34, es, nI_clamp (show s < 2 ^ 31 by have := hN.2.2.2; omega), h75]; done)
        refine WP.iinc (lv' := [_, _, _, _, _, _]) (pc := 80) hC dX2_agrees_80 rfl (_ + 1) rfl rfl (by decide) rfl ?_
        refine WP.goto (pc := 83) hC dX2_agrees_83 3 (by decide) ?_
        rw [nIp1]
        exact hv _ (by rw [agN, ha, ho]; rfl)
      · refine WP.aln (pc := 23) hC dX2_agrees_23 rfl ?_
        refine WP.aln (pc := 24) hC dX2_agrees_24 rfl ?_
        refine WP.gf (pc := 25) hC dX2_agrees_25 fl_X2_15 (by decide) rfl rfl ?_
        refine WP.il (pc := 28) hC dX2_agrees_28 rfl ?_
        refine WP.ial (pc := 30) hC dX2_agrees_30 j rfl (by omega) (by decide) rfl (by decide) ?_
        refine WP.callVI (pc := 31) hC dX2_agrees_31 (k_X3_hasSample _ F L nr ns _ hN) ml_X2_29 rfl rfl (by decide) rfl (Nat.le_of_ble_eq_true rfl) ⟨by decide, by decide⟩ ?_
        refine WP.ifeq (pc := 34) hC dX2_agrees_34 80 (by decide) (fun h34 => ?_) (fun h34 => ?_)
        · have ho : okH F ns i e j = true := by
            first | (simp [okH, h20]; done) | (rw [b2_0] at h34; simp [okH, h34]; done) | (have h75 := b2_inj h75; simp [okH, h20, h34, es, nI_clamp (show s < 2 ^ 31 by have := hN.2.2.2; omega), h75]; done)
          refine WP.iinc (lv' := [_, _, _, _, _, _]) (pc := 80) hC dX2_agrees_80 rfl (_ + 1) rfl rfl (by decide) rfl ?_
          refine WP.goto (pc := 83) hC dX2_agrees_83 3 (by decide) ?_
          rw [nIp1]
          exact hv _ (by rw [agN, ha, ho]; rfl)
        · rw [b2_n0] at h34
          obtain ⟨s, hs, es⟩ := hasB_of (by have := hN.2.2.2; omega) h34
          refine WP.aln (pc := 37) hC dX2_agrees_37 rfl ?_
          refine WP.iln (pc := 38) hC dX2_agrees_38 rfl ?_
          refine WP.aln (pc := 39) hC dX2_agrees_39 rfl ?_
          refine WP.gf (pc := 40) hC dX2_agrees_40 fl_X2_15 (by decide) rfl rfl ?_
          refine WP.il (pc := 43) hC dX2_agrees_43 rfl ?_
          refine WP.ial (pc := 45) hC dX2_agrees_45 j rfl (by omega) (by decide) rfl (by decide) ?_
          rw [es]
          refine WP.iln (pc := 46) hC dX2_agrees_46 rfl ?_
          refine WP.iconst (pc := 47) hC dX2_agrees_47 0 (by decide) ?_
          refine WP.aln (pc := 48) hC dX2_agrees_48 rfl ?_
          refine WP.gf (pc := 49) hC dX2_agrees_49 fl_X2_18 (by decide) rfl rfl ?_
          refine WP.il (pc := 52) hC dX2_agrees_52 rfl ?_
          refine WP.zal (pc := 54) hC dX2_agrees_54 j rfl (by omega) (by decide) rfl (by decide) ?_
          rw [tru_b2 hz.1]
          refine WP.iconst (pc := 55) hC dX2_agrees_55 1 (by decide) ?_
          change WP _ _ _ _ _ _ _ (.int (b2 true) :: _) _ _
          refine WP.callVI (pc := 56) hC dX2_agrees_56 (k_X3_seen _ F L nr ns i s e 0 (tru (F 13 j)) true hN hi hs) ml_X2_35 rfl rfl (by decide) rfl (Nat.le_of_ble_eq_true rfl) ⟨by decide, by decide⟩ ?_
          refine WP.is (lv' := [_, _, _, _, _, _]) (pc := 59) hC dX2_agrees_59 rfl (by decide) rfl ?_
          refine WP.aln (pc := 61) hC dX2_agrees_61 rfl ?_
          refine WP.iln (pc := 62) hC dX2_agrees_62 rfl ?_
          refine WP.il (pc := 63) hC dX2_agrees_63 rfl ?_
          refine WP.callVI (pc := 65) hC dX2_agrees_65 (k_X3_saysYes _ F L nr ns i _ hN hi) ml_X2_39 rfl rfl (by decide) rfl (Nat.le_of_ble_eq_true rfl) ⟨by decide, by decide⟩ ?_
          refine WP.aln (pc := 68) hC dX2_agrees_68 rfl ?_
          refine WP.gf (pc := 69) hC dX2_agrees_69 fl_X2_22 (by decide) rfl rfl ?_
          refine WP.il (pc := 72) hC dX2_agrees_72 rfl ?_
          refine WP.zal (pc := 74) hC dX2_agrees_74 j rfl (by omega) (by decide) rfl (by decide) ?_
          rw [tru_b2 hz.2]
          refine WP.iceq (pc := 75) hC dX2_agrees_75 80 (by decide) (fun h75 => ?_) (fun h75 => ?_)
          · have ho : okH F ns i e j = true := by
              first | (simp [okH, h20]; done) | (rw [b2_0] at h34; simp [okH, h34]; done) | (have h75 := b2_inj h75; simp [okH, h20, h34, es, nI_clamp (show s < 2 ^ 31 by have := hN.2.2.2; omega), h75]; done)
            refine WP.iinc (lv' := [_, _, _, _, _, _]) (pc := 80) hC dX2_agrees_80 rfl (_ + 1) rfl rfl (by decide) rfl ?_
            refine WP.goto (pc := 83) hC dX2_agrees_83 3 (by decide) ?_
            rw [nIp1]
            exact hv _ (by rw [agN, ha, ho]; rfl)
          · have ho : okH F ns i e j = false := by
              have hb : saysB (F 6 i) (F 5 i) (sees (F 6 i) e (lits (tru (F 13 j)) (F 7 s)) 0 true) ≠ tru (F 14 j) := fun q => h75 (by rw [q])
              simp [okH, h20, es, hasB_in hs (show ns ≤ 5 by have := hN.2.2.2; omega), nI_clamp (show s < 2 ^ 31 by have := hN.2.2.2; omega), hb]
            refine WP.iconst (pc := 78) hC dX2_agrees_78 0 (by decide) ?_
            refine WP.zret (pc := 79) hC rfl (by first | exact Or.inl rfl | exact Or.inr rfl | exact b2_01 _) dX2_agrees_79 ?_ ?_ ?_
            all_goals (first | rfl | (rw [show agN F ns i e h = false by (rw [show h = (j + 1) + (h - (j + 1)) by omega]; exact agN_f (by rw [agN, ho, Bool.and_false]) _)]; rfl))
  refine WP.iconst (pc := 0) hC dX2_agrees_0 0 (by decide) ?_
  refine WP.is (lv' := [_, _, _, _, _, _]) (pc := 1) hC dX2_agrees_1 rfl (by decide) rfl ?_
  exact loop 0 (Nat.zero_le _) _ rfl
set_option maxHeartbeats 4000000 in
theorem k_X0_clear (l : Launch) (F : FF) (L : Int64)  : CV l yX0_clear cX0_clear 1 none (rmx 0 0) wN [.ref 8] F L (up2 F 8 2 0) L := by
  refine mkV [some (.ref 8)] 0 (by decide) rfl (Nat.le_of_ble_eq_true rfl) ?_
  intro x d hx hC
  subst hx
  have hC : Cx x cX0_clear 1 RX0 none (rmx 0 0) wN d := hC
  refine WP.aln (pc := 0) hC dX0_clear_0 rfl ?_
  refine WP.iconst (pc := 1) hC dX0_clear_1 0 (by decide) ?_
  refine WP.pf (pc := 2) hC dX0_clear_2 fp_X0_18 rfl rfl (by decide) rfl rfl (Nat.le_of_ble_eq_true rfl) ?_
  refine WP.vret (pc := 5) hC rfl dX0_clear_5 ?_ ?_
  all_goals (rfl)
set_option maxHeartbeats 4000000 in
theorem k_X0_remember (l : Launch) (F : FF) (L : Int64) (nx sz : Nat) (hA : AC F nx sz) (hZ : BZ F) : CV l yX0_remember cX0_remember 2 none (rmx 1 21) wN [.ref 8, .ref 19] F L (rmB F nx) L := by
  refine mkV [some (.ref 8), some (.ref 19)] 0 (by decide) rfl (Nat.le_of_ble_eq_true rfl) ?_
  intro x d hx hC
  subst hx
  have hC : Cx x cX0_remember 2 RX0 none (rmx 1 21) wN d := hC
  have hx := hA.2.2.1
  have hZ1 := hZ 19 (by decide) (by decide)
  refine WP.aln (pc := 0) hC dX0_remember_0 rfl ?_
  refine WP.gf (pc := 1) hC dX0_remember_1 fl_X0_11 (by decide) rfl rfl ?_
  refine WP.aln (pc := 4) hC dX0_remember_4 rfl ?_
  refine WP.gf (pc := 5) hC dX0_remember_5 fl_X0_22 (by decide) rfl rfl ?_
  refine WP.ral (pc := 8) hC dX0_remember_8 nx hA.1 hx (by decide) rfl (by decide) rfl ?_
  refine WP.aln (pc := 9) hC dX0_remember_9 rfl ?_
  refine WP.callVV (pc := 10) hC dX0_remember_10 (k_X1_copyFrom _ F L (nx + 20) 19 (by omega) (by omega) (by omega) hZ1.1 hZ1.2) ml_X0_25 rfl rfl (show nx + 20 < 37 by omega) (cw_b (by omega) _ _) (Nat.le_of_ble_eq_true rfl) ⟨by decide, by decide⟩ ?_
  refine WP.aln (pc := 13) hC dX0_remember_13 rfl ?_
  refine WP.aln (pc := 14) hC dX0_remember_14 rfl ?_
  refine WP.gf (pc := 15) hC dX0_remember_15 fl_X0_22 (by decide) rfl rfl ?_
  rw [cpB_n F 1 (show 8 ≠ nx + 20 by omega)]
  refine WP.iconst (pc := 18) hC dX0_remember_18 1 (by decide) ?_
  refine WP.iadd (pc := 19) hC dX0_remember_19 ?_
  refine WP.bipush (pc := 20) hC dX0_remember_20 14 (by decide) ?_
  refine WP.icge (pc := 22) hC dX0_remember_22 34 (by decide) (fun h22 => ?_) (fun h22 => ?_)
  · refine WP.iconst (pc := 34) hC dX0_remember_34 0 (by decide) ?_
    refine WP.pf (pc := 35) hC dX0_remember_35 fp_X0_22 rfl rfl (by decide) rfl rfl (Nat.le_of_ble_eq_true rfl) ?_
    refine WP.aln (pc := 38) hC dX0_remember_38 rfl ?_
    refine WP.bipush (pc := 39) hC dX0_remember_39 14 (by decide) ?_
    refine WP.aln (pc := 41) hC dX0_remember_41 rfl ?_
    refine WP.gf (pc := 42) hC dX0_remember_42 fl_X0_18 (by decide) rfl rfl ?_
    rw [up2_n _ _ (Or.inr (by decide)), cpB_n F 2 (show 8 ≠ nx + 20 by omega)]
    refine WP.iconst (pc := 45) hC dX0_remember_45 1 (by decide) ?_
    refine WP.iadd (pc := 46) hC dX0_remember_46 ?_
    refine WP.mmin (pc := 47) hC dX0_remember_47 ml_X0_29 ⟨by decide, Nat.le_of_ble_eq_true rfl⟩ ?_
    refine WP.pf (pc := 50) hC dX0_remember_50 fp_X0_18 rfl rfl (by decide) rfl rfl (Nat.le_of_ble_eq_true rfl) ?_
    refine WP.vret (pc := 53) hC rfl dX0_remember_53 ?_ ?_
    all_goals (first | rfl | (unfold rmB nxtI; rw [if_pos h22]; rfl) | (unfold rmB nxtI; rw [if_neg h22]; rfl))
  · refine WP.aln (pc := 25) hC dX0_remember_25 rfl ?_
    refine WP.gf (pc := 26) hC dX0_remember_26 fl_X0_22 (by decide) rfl rfl ?_
    rw [cpB_n F 1 (show 8 ≠ nx + 20 by omega)]
    refine WP.iconst (pc := 29) hC dX0_remember_29 1 (by decide) ?_
    refine WP.iadd (pc := 30) hC dX0_remember_30 ?_
    refine WP.goto (pc := 31) hC dX0_remember_31 35 (by decide) ?_
    refine WP.pf (pc := 35) hC dX0_remember_35 fp_X0_22 rfl rfl (by decide) rfl rfl (Nat.le_of_ble_eq_true rfl) ?_
    refine WP.aln (pc := 38) hC dX0_remember_38 rfl ?_
    refine WP.bipush (pc := 39) hC dX0_remember_39 14 (by decide) ?_
    refine WP.aln (pc := 41) hC dX0_remember_41 rfl ?_
    refine WP.gf (pc := 42) hC dX0_remember_42 fl_X0_18 (by decide) rfl rfl ?_
    rw [up2_n _ _ (Or.inr (by decide)), cpB_n F 2 (show 8 ≠ nx + 20 by omega)]
    refine WP.iconst (pc := 45) hC dX0_remember_45 1 (by decide) ?_
    refine WP.iadd (pc := 46) hC dX0_remember_46 ?_
    refine WP.mmin (pc := 47) hC dX0_remember_47 ml_X0_29 ⟨by decide, Nat.le_of_ble_eq_true rfl⟩ ?_
    refine WP.pf (pc := 50) hC dX0_remember_50 fp_X0_18 rfl rfl (by decide) rfl rfl (Nat.le_of_ble_eq_true rfl) ?_
    refine WP.vret (pc := 53) hC rfl dX0_remember_53 ?_ ?_
    all_goals (first | rfl | (unfold rmB nxtI; rw [if_pos h22]; rfl) | (unfold rmB nxtI; rw [if_neg h22]; rfl))
set_option maxHeartbeats 4000000 in
theorem k_X0_takeBack (l : Launch) (F : FF) (L : Int64) (nx sz : Nat) (hA : AC F nx sz) (hZ : BZ F) (hs0 : 0 < sz) : CV l yX0_takeBack cX0_takeBack 2 none (rmx 1 21) wN [.ref 8, .ref 19] F L (tbB F nx) L := by
  refine mkV [some (.ref 8), some (.ref 19)] 0 (by decide) rfl (Nat.le_of_ble_eq_true rfl) ?_
  intro x d hx hC
  subst hx
  have hC : Cx x cX0_takeBack 2 RX0 none (rmx 1 21) wN d := hC
  have hx := hA.2.2.1
  have hs14 := hA.2.2.2
  have hp : prv nx < 14 := by unfold prv; split <;> omega
  refine WP.aln (pc := 0) hC dX0_takeBack_0 rfl ?_
  refine WP.gf (pc := 1) hC dX0_takeBack_1 fl_X0_18 (by decide) rfl rfl ?_
  refine WP.ifle (pc := 4) hC dX0_takeBack_4 52 (by decide) (fun h4 => absurd h4 (by rw [hA.2.1]; exact fun q => absurd q (nI_nle hs0 (by omega)))) (fun h4 => ?_)
  refine WP.aln (pc := 7) hC dX0_takeBack_7 rfl ?_
  refine WP.aln (pc := 8) hC dX0_takeBack_8 rfl ?_
  refine WP.gf (pc := 9) hC dX0_takeBack_9 fl_X0_22 (by decide) rfl rfl ?_
  refine WP.ifle (pc := 12) hC dX0_takeBack_12 24 (by decide) (fun h12 => ?_) (fun h12 => ?_)
  · have hx0 : ¬ 0 < nx := fun q => absurd (hA.1 ▸ h12) (nI_nle q (by omega))
    refine WP.bipush (pc := 24) hC dX0_takeBack_24 13 (by decide) ?_
    first | skip | skip
    try rw [show (13 : Int32) = nI (prv nx) by rw [prv, if_neg hx0]; rfl]
    refine WP.pf (pc := 26) hC dX0_takeBack_26 fp_X0_22 rfl rfl (by decide) rfl rfl (Nat.le_of_ble_eq_true rfl) ?_
    refine WP.aln (pc := 29) hC dX0_takeBack_29 rfl ?_
    refine WP.dup (pc := 30) hC dX0_takeBack_30 rfl ?_
    refine WP.gf (pc := 31) hC dX0_takeBack_31 fl_X0_18 (by decide) rfl rfl ?_
    refine WP.iconst (pc := 34) hC dX0_takeBack_34 1 (by decide) ?_
    refine WP.isub (pc := 35) hC dX0_takeBack_35 ?_
    refine WP.pf (pc := 36) hC dX0_takeBack_36 fp_X0_18 rfl rfl (by decide) rfl rfl (Nat.le_of_ble_eq_true rfl) ?_
    refine WP.aln (pc := 39) hC dX0_takeBack_39 rfl ?_
    refine WP.aln (pc := 40) hC dX0_takeBack_40 rfl ?_
    refine WP.gf (pc := 41) hC dX0_takeBack_41 fl_X0_11 (by decide) rfl rfl ?_
    refine WP.aln (pc := 44) hC dX0_takeBack_44 rfl ?_
    refine WP.gf (pc := 45) hC dX0_takeBack_45 fl_X0_22 (by decide) rfl rfl ?_
    refine WP.ral (pc := 48) hC dX0_takeBack_48 (prv nx) rfl hp (by decide) rfl (by decide) rfl ?_
    refine WP.callVV (pc := 49) hC dX0_takeBack_49 (k_X1_copyFrom _ _ L 19 (prv nx + 20) (by omega) (by omega) (by omega) (hZ (prv nx + 20) (by omega) (by omega)).1 (hZ (prv nx + 20) (by omega) (by omega)).2) ml_X0_25 rfl rfl (by decide) rfl (Nat.le_of_ble_eq_true rfl) ⟨by decide, by decide⟩ ?_
    refine WP.vret (pc := 52) hC rfl dX0_takeBack_52 ?_ ?_
    all_goals (rfl)
  · have hx0 : 0 < nx := Nat.pos_of_ne_zero (fun q => h12 (by rw [hA.1, q]; decide))
    refine WP.aln (pc := 15) hC dX0_takeBack_15 rfl ?_
    refine WP.gf (pc := 16) hC dX0_takeBack_16 fl_X0_22 (by decide) rfl rfl ?_
    refine WP.iconst (pc := 19) hC dX0_takeBack_19 1 (by decide) ?_
    refine WP.isub (pc := 20) hC dX0_takeBack_20 ?_
    rw [show F 8 1 - 1 = nI (prv nx) by rw [hA.1, prv, if_pos hx0]; exact pk_sub (b := 1) hx0]
    refine WP.goto (pc := 21) hC dX0_takeBack_21 26 (by decide) ?_
    first | skip | skip
    try rw [show (13 : Int32) = nI (prv nx) by rw [prv, if_neg hx0]; rfl]
    refine WP.pf (pc := 26) hC dX0_takeBack_26 fp_X0_22 rfl rfl (by decide) rfl rfl (Nat.le_of_ble_eq_true rfl) ?_
    refine WP.aln (pc := 29) hC dX0_takeBack_29 rfl ?_
    refine WP.dup (pc := 30) hC dX0_takeBack_30 rfl ?_
    refine WP.gf (pc := 31) hC dX0_takeBack_31 fl_X0_18 (by decide) rfl rfl ?_
    refine WP.iconst (pc := 34) hC dX0_takeBack_34 1 (by decide) ?_
    refine WP.isub (pc := 35) hC dX0_takeBack_35 ?_
    refine WP.pf (pc := 36) hC dX0_takeBack_36 fp_X0_18 rfl rfl (by decide) rfl rfl (Nat.le_of_ble_eq_true rfl) ?_
    refine WP.aln (pc := 39) hC dX0_takeBack_39 rfl ?_
    refine WP.aln (pc := 40) hC dX0_takeBack_40 rfl ?_
    refine WP.gf (pc := 41) hC dX0_takeBack_41 fl_X0_11 (by decide) rfl rfl ?_
    refine WP.aln (pc := 44) hC dX0_takeBack_44 rfl ?_
    refine WP.gf (pc := 45) hC dX0_takeBack_45 fl_X0_22 (by decide) rfl rfl ?_
    refine WP.ral (pc := 48) hC dX0_takeBack_48 (prv nx) rfl hp (by decide) rfl (by decide) rfl ?_
    refine WP.callVV (pc := 49) hC dX0_takeBack_49 (k_X1_copyFrom _ _ L 19 (prv nx + 20) (by omega) (by omega) (by omega) (hZ (prv nx + 20) (by omega) (by omega)).1 (hZ (prv nx + 20) (by omega) (by omega)).2) ml_X0_25 rfl rfl (by decide) rfl (Nat.le_of_ble_eq_true rfl) ⟨by decide, by decide⟩ ?_
    refine WP.vret (pc := 52) hC rfl dX0_takeBack_52 ?_ ?_
    all_goals (rfl)
