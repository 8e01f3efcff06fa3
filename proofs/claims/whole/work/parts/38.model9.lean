/-! ===== NewRaysModel: readText, fault, room ===== -/
theorem rtN_x {n : Nat} {G : FF} (h : ¬ (G 0 14 = -9 ∧ ix (G 0 13) < n)) : ∀ f, rtN n f G = G
  | 0 => rfl
  | f + 1 => by rw [rtN, if_neg h]
theorem rtN_s {n f : Nat} {G : FF} (h : G 0 14 = -9 ∧ ix (G 0 13) < n) : rtN n (f + 1) G = rtN n f (rtS G n) := by rw [rtN, if_pos h]
def mu (G : FF) (n a : Nat) : Nat := (n - a) + (if G 0 14 = -9 then 1 else 0)
theorem rd1_9 {G : FF} : rd1 G 0 9 = G 0 9 := by unfold rd1; rw [up2_n _ _ (Or.inr (by decide))]
theorem rd1_10 {G : FF} : rd1 G 0 10 = G 0 10 := by unfold rd1; rw [up2_n _ _ (Or.inr (by decide))]
theorem rd2_9 {G : FF} {n r : Nat} : rd2 G n r 0 9 = G 0 9 := by unfold rd2; rw [up2_n _ _ (Or.inl (by decide)), figF_9, rd1_9]
theorem rd3_9 {G : FF} {n r : Nat} : rd3 G n r 0 9 = G 0 9 := by unfold rd3; rw [up2_n _ _ (Or.inl (by decide)), figF_9, rd2_9]
theorem rd4_9 {G : FF} {n r : Nat} : rd4 G n r 0 9 = G 0 9 := by unfold rd4; rw [up2_n _ _ (Or.inl (by decide)), figF_9, rd3_9]
theorem sm2_10 {G : FF} {n s : Nat} : sm2 G n s 0 10 = G 0 10 := by unfold sm2; rw [up2_n _ _ (Or.inl (by decide)), figF_10, rd1_10]
theorem rd1_T {G : FF} {n a : Nat} (h : TI G n a) (ha : a < 50) : TI (rd1 G) n (a + 1) := ⟨by unfold rd1; rw [up2_n _ _ (Or.inr (by decide))]; exact h.1, h.2.1, by unfold rd1; rw [up2_s, h.2.2.1, ix_nI (by omega)], by omega⟩

set_option maxHeartbeats 4000000 in
theorem k_X6_readText (l : Launch) (F : FF) (L : Int64) (n : Nat) (hn : F 0 12 = nI n ∧ n ≤ 36) : CI l yX6_readText cX6_readText 1 (some .int) (rmx 2 48) wM [.ref 0] F L (rtR1 F n) (rtF1 F n) L := by
  refine mkI [some (.ref 0)] 0 (by decide) rfl (Nat.le_of_ble_eq_true rfl) ?_
  intro x d hx hC
  subst hx
  have hC : Cx x cX6_readText 1 RX6 (some .int) (rmx 2 48) wM d := hC
  refine WP.aln (pc := 0) hC dX6_readText_0 rfl ?_
  refine WP.iconst (pc := 1) hC dX6_readText_1 0 (by decide) ?_
  refine WP.pf (pc := 2) hC dX6_readText_2 fp_X6_69 rfl rfl (by decide) rfl rfl (Nat.le_of_ble_eq_true rfl) ?_
  refine WP.aln (pc := 5) hC dX6_readText_5 rfl ?_
  refine WP.bipush (pc := 6) hC dX6_readText_6 (-9) (by decide) ?_
  refine WP.pf (pc := 8) hC dX6_readText_8 fp_X6_66 rfl rfl (by decide) rfl rfl (Nat.le_of_ble_eq_true rfl) ?_
  refine WP.aln (pc := 11) hC dX6_readText_11 rfl ?_
  refine WP.iconst (pc := 12) hC dX6_readText_12 0 (by decide) ?_
  refine WP.pf (pc := 13) hC dX6_readText_13 fp_X6_72 rfl rfl (by decide) rfl rfl (Nat.le_of_ble_eq_true rfl) ?_
  refine WP.aln (pc := 16) hC dX6_readText_16 rfl ?_
  refine WP.iconst (pc := 17) hC dX6_readText_17 0 (by decide) ?_
  refine WP.pf (pc := 18) hC dX6_readText_18 fp_X6_75 rfl rfl (by decide) rfl rfl (Nat.le_of_ble_eq_true rfl) ?_
  refine WP.aln (pc := 21) hC dX6_readText_21 rfl ?_
  refine WP.gf (pc := 22) hC dX6_readText_22 fl_X6_62 (by decide) rfl rfl ?_
  refine WP.ifeq (pc := 25) hC dX6_readText_25 39 (by decide) (fun h25 => ?_) (fun h25 => ?_)
  · refine WP.iconst (pc := 39) hC dX6_readText_39 0 (by decide) ?_
    refine WP.iret (pc := 40) hC rfl dX6_readText_40 ?_ ?_ ?_
    all_goals (first | rfl | (unfold rtR1; refine (if_neg ?_).symm; rintro ⟨q1, q2⟩; first | exact h36 q2 | exact q1 ((nI_eq (b := 0) (by have := hn.2; omega) (by decide)).mp (hn.1.symm.trans h25))) | (unfold rtF1; refine (Eq.trans ?_ (if_neg ?_).symm); rfl; rintro ⟨q1, q2⟩; first | exact h36 q2 | exact q1 ((nI_eq (b := 0) (by have := hn.2; omega) (by decide)).mp (hn.1.symm.trans h25))))
  · refine WP.aln (pc := 28) hC dX6_readText_28 rfl ?_
    refine WP.gf (pc := 29) hC dX6_readText_29 fl_X6_31 (by decide) rfl rfl ?_
    refine WP.iconst (pc := 32) hC dX6_readText_32 0 (by decide) ?_
    refine WP.ial (pc := 33) hC dX6_readText_33 0 rfl (by decide) (by decide) rfl (by decide) ?_
    refine WP.bipush (pc := 34) hC dX6_readText_34 69 (by decide) ?_
    refine WP.iceq (pc := 36) hC dX6_readText_36 41 (by decide) (fun h36 => ?_) (fun h36 => ?_)
    · have hok : ¬ n = 0 ∧ F 8 0 = 69 := ⟨fun z => h25 (by show F 0 12 = 0; rw [hn.1, z]; rfl), h36⟩
      rw [show rtR1 F n = rtN n 40 (up2 (rt0 F) 0 13 1) 0 14 by unfold rtR1; rw [if_pos hok], show rtF1 F n = rtN n 40 (up2 (rt0 F) 0 13 1) by unfold rtF1; rw [if_pos hok]]
      generalize hV : rtN n 40 (up2 (rt0 F) 0 13 1) = V
      have loop : ∀ f : Nat, ∀ (G : FF) (a r s : Nat), RI G n a r s → mu G n a ≤ f → rtN n f G = V → WP x 1 wM d (QI x wM d (V 0 14) V L) 46 [some (.ref 0)] [] G L := by
        intro f
        induction f with
        | zero =>
          intro G a r s hI hmu hv
          have hT := hI.1
          have h40 := hI.2.1
          have e9 := hI.2.2.1
          have hr0 := hI.2.2.2.1
          have e10 := hI.2.2.2.2.1
          have hs0 := hI.2.2.2.2.2
          have e12 := hT.1
          have hn36 := hT.2.1
          have e13 := hT.2.2.1
          have ea : ix (G 0 13) = a := by rw [e13, ix_nI (by omega)]
          have er : ix (G 0 9) = r := by rw [e9, ix_nI (by omega)]
          have es : ix (G 0 10) = s := by rw [e10, ix_nI (by omega)]
          have h14 : ¬ G 0 14 = -9 := fun q => by
            unfold mu at hmu
            rw [if_pos q] at hmu
            omega
          refine WP.aln (pc := 46) hC dX6_readText_46 rfl ?_
          refine WP.gf (pc := 47) hC dX6_readText_47 fl_X6_66 (by decide) rfl rfl ?_
          refine WP.bipush (pc := 50) hC dX6_readText_50 (-9) (by decide) ?_
          refine WP.icne (pc := 52) hC dX6_readText_52 240 (by decide) (fun h52 => ?_) (fun h52 => absurd h52 h14)
          have hno : ¬ (G 0 14 = -9 ∧ ix (G 0 13) < n) := fun q => h14 q.1
          rw [rtN_x hno] at hv
          subst hv
          refine WP.aln (pc := 240) hC dX6_readText_240 rfl ?_
          refine WP.gf (pc := 241) hC dX6_readText_241 fl_X6_66 (by decide) rfl rfl ?_
          refine WP.iret (pc := 244) hC rfl dX6_readText_244 ?_ ?_ ?_
          all_goals (rfl)
        | succ f ih =>
          intro G a r s hI hmu hv
          have hT := hI.1
          have h40 := hI.2.1
          have e9 := hI.2.2.1
          have hr0 := hI.2.2.2.1
          have e10 := hI.2.2.2.2.1
          have hs0 := hI.2.2.2.2.2
          have e12 := hT.1
          have hn36 := hT.2.1
          have e13 := hT.2.2.1
          have ea : ix (G 0 13) = a := by rw [e13, ix_nI (by omega)]
          have er : ix (G 0 9) = r := by rw [e9, ix_nI (by omega)]
          have es : ix (G 0 10) = s := by rw [e10, ix_nI (by omega)]
          refine WP.aln (pc := 46) hC dX6_readText_46 rfl ?_
          refine WP.gf (pc := 47) hC dX6_readText_47 fl_X6_66 (by decide) rfl rfl ?_
          refine WP.bipush (pc := 50) hC dX6_readText_50 (-9) (by decide) ?_
          refine WP.icne (pc := 52) hC dX6_readText_52 240 (by decide) (fun h52 => ?_) (fun h52 => ?_)
          · have hno : ¬ (G 0 14 = -9 ∧ ix (G 0 13) < n) := by
              rintro ⟨q1, q2⟩
              rw [ea] at q2
              first | exact h52 q1 | (rw [e12, e13] at h63; exact nI_ge q2 (by omega) h63)
            rw [rtN_x hno] at hv
            subst hv
            refine WP.aln (pc := 240) hC dX6_readText_240 rfl ?_
            refine WP.gf (pc := 241) hC dX6_readText_241 fl_X6_66 (by decide) rfl rfl ?_
            refine WP.iret (pc := 244) hC rfl dX6_readText_244 ?_ ?_ ?_
            all_goals (rfl)
          · refine WP.aln (pc := 55) hC dX6_readText_55 rfl ?_
            refine WP.gf (pc := 56) hC dX6_readText_56 fl_X6_69 (by decide) rfl rfl ?_
            refine WP.aln (pc := 59) hC dX6_readText_59 rfl ?_
            refine WP.gf (pc := 60) hC dX6_readText_60 fl_X6_62 (by decide) rfl rfl ?_
            refine WP.icge (pc := 63) hC dX6_readText_63 240 (by decide) (fun h63 => ?_) (fun h63 => ?_)
            · have hno : ¬ (G 0 14 = -9 ∧ ix (G 0 13) < n) := by
                rintro ⟨q1, q2⟩
                rw [ea] at q2
                first | exact h52 q1 | (rw [e12, e13] at h63; exact nI_ge q2 (by omega) h63)
              rw [rtN_x hno] at hv
              subst hv
              refine WP.aln (pc := 240) hC dX6_readText_240 rfl ?_
              refine WP.gf (pc := 241) hC dX6_readText_241 fl_X6_66 (by decide) rfl rfl ?_
              refine WP.iret (pc := 244) hC rfl dX6_readText_244 ?_ ?_ ?_
              all_goals (rfl)
            · have han : a < n := by
                have h63 := h63
                rw [e12, e13] at h63
                exact (nI_ltI (by omega) (by omega)).mp (i_nle.mp h63)
              have hgo : G 0 14 = -9 ∧ ix (G 0 13) < n := ⟨h52, by rw [ea]; exact han⟩
              rw [rtN_s hgo] at hv
              refine WP.aln (pc := 66) hC dX6_readText_66 rfl ?_
              refine WP.gf (pc := 67) hC dX6_readText_67 fl_X6_31 (by decide) rfl rfl ?_
              refine WP.aln (pc := 70) hC dX6_readText_70 rfl ?_
              refine WP.gf (pc := 71) hC dX6_readText_71 fl_X6_69 (by decide) rfl rfl ?_
              refine WP.ial (pc := 74) hC dX6_readText_74 a e13 (by omega) (by decide) rfl (by decide) ?_
              refine WP.bipush (pc := 75) hC dX6_readText_75 82 (by decide) ?_
              refine WP.icne (pc := 77) hC dX6_readText_77 168 (by decide) (fun h77 => ?_) (fun h77 => ?_)
              · have hnr : ¬ (G 8 a = 82 ∧ r < 5) := by
                  rintro ⟨q1, q2⟩
                  first | exact h77 q1 | (rw [e9] at h85; exact nI_ge q2 (by decide) h85)
                refine WP.aln (pc := 168) hC dX6_readText_168 rfl ?_
                refine WP.gf (pc := 169) hC dX6_readText_169 fl_X6_31 (by decide) rfl rfl ?_
                refine WP.aln (pc := 172) hC dX6_readText_172 rfl ?_
                refine WP.gf (pc := 173) hC dX6_readText_173 fl_X6_69 (by decide) rfl rfl ?_
                refine WP.ial (pc := 176) hC dX6_readText_176 a e13 (by omega) (by decide) rfl (by decide) ?_
                refine WP.bipush (pc := 177) hC dX6_readText_177 83 (by decide) ?_
                refine WP.icne (pc := 179) hC dX6_readText_179 229 (by decide) (fun h179 => ?_) (fun h179 => ?_)
                · have hns : ¬ (G 8 a = 83 ∧ s < 4) := by
                    rintro ⟨q1, q2⟩
                    first | exact h179 q1 | (rw [e10] at h187; exact nI_ge q2 (by decide) h187)
                  have hS : rtS G n = up2 G 0 14 (nI a) := by unfold rtS; rw [ea, er, es, if_neg hnr, if_neg hns]
                  refine WP.aln (pc := 229) hC dX6_readText_229 rfl ?_
                  refine WP.aln (pc := 230) hC dX6_readText_230 rfl ?_
                  refine WP.gf (pc := 231) hC dX6_readText_231 fl_X6_69 (by decide) rfl rfl ?_
                  refine WP.pf (pc := 234) hC dX6_readText_234 fp_X6_66 rfl rfl (by decide) rfl rfl (Nat.le_of_ble_eq_true rfl) ?_
                  rw [e13]
                  refine WP.goto (pc := 237) hC dX6_readText_237 46 (by decide) ?_
                  obtain ⟨b, p, q, hR, hab, hne, -⟩ := hI.step han
                  rw [hS] at hR hne
                  refine ih _ b p q hR ?_ (by rw [← hS]; exact hv)
                  unfold mu at hmu ⊢
                  rw [if_pos h52] at hmu
                  rcases Nat.eq_or_lt_of_le hab with e | e
                  · rw [if_neg (hne e.symm)]; omega
                  · split <;> omega
                · refine WP.aln (pc := 182) hC dX6_readText_182 rfl ?_
                  refine WP.gf (pc := 183) hC dX6_readText_183 fl_X6_75 (by decide) rfl rfl ?_
                  refine WP.iconst (pc := 186) hC dX6_readText_186 4 (by decide) ?_
                  refine WP.icge (pc := 187) hC dX6_readText_187 229 (by decide) (fun h187 => ?_) (fun h187 => ?_)
                  · have hns : ¬ (G 8 a = 83 ∧ s < 4) := by
                      rintro ⟨q1, q2⟩
                      first | exact h179 q1 | (rw [e10] at h187; exact nI_ge q2 (by decide) h187)
                    have hS : rtS G n = up2 G 0 14 (nI a) := by unfold rtS; rw [ea, er, es, if_neg hnr, if_neg hns]
                    refine WP.aln (pc := 229) hC dX6_readText_229 rfl ?_
                    refine WP.aln (pc := 230) hC dX6_readText_230 rfl ?_
                    refine WP.gf (pc := 231) hC dX6_readText_231 fl_X6_69 (by decide) rfl rfl ?_
                    refine WP.pf (pc := 234) hC dX6_readText_234 fp_X6_66 rfl rfl (by decide) rfl rfl (Nat.le_of_ble_eq_true rfl) ?_
                    rw [e13]
                    refine WP.goto (pc := 237) hC dX6_readText_237 46 (by decide) ?_
                    obtain ⟨b, p, q, hR, hab, hne, -⟩ := hI.step han
                    rw [hS] at hR hne
                    refine ih _ b p q hR ?_ (by rw [← hS]; exact hv)
                    unfold mu at hmu ⊢
                    rw [if_pos h52] at hmu
                    rcases Nat.eq_or_lt_of_le hab with e | e
                    · rw [if_neg (hne e.symm)]; omega
                    · split <;> omega
                  · have hs4 : s < 4 := by
                      have h187 := h187
                      rw [e10] at h187
                      exact (nI_ltI (b := 4) (by omega) (by decide)).mp (i_nle.mp h187)
                    have hS : rtS G n = sm3 G n s := by unfold rtS; rw [ea, er, es, if_neg hnr, if_pos ⟨h179, hs4⟩]
                    have hT1 := rd1_T hT (by omega)
                    refine WP.aln (pc := 190) hC dX6_readText_190 rfl ?_
                    refine WP.dup (pc := 191) hC dX6_readText_191 rfl ?_
                    refine WP.gf (pc := 192) hC dX6_readText_192 fl_X6_69 (by decide) rfl rfl ?_
                    refine WP.iconst (pc := 195) hC dX6_readText_195 1 (by decide) ?_
                    refine WP.iadd (pc := 196) hC dX6_readText_196 ?_
                    refine WP.pf (pc := 197) hC dX6_readText_197 fp_X6_69 rfl rfl (by decide) rfl rfl (Nat.le_of_ble_eq_true rfl) ?_
                    rw [show up2 G 0 13 (G 0 13 + 1) = rd1 G by unfold rd1; rw [ea, e13, nIp1]]
                    refine WP.aln (pc := 200) hC dX6_readText_200 rfl ?_
                    refine WP.gf (pc := 201) hC dX6_readText_201 fl_X6_28 (by decide) rfl rfl ?_
                    refine WP.aln (pc := 204) hC dX6_readText_204 rfl ?_
                    refine WP.gf (pc := 205) hC dX6_readText_205 fl_X6_75 (by decide) rfl rfl ?_
                    rw [rd1_10, e10]
                    refine WP.aln (pc := 208) hC dX6_readText_208 rfl ?_
                    refine WP.iconst (pc := 209) hC dX6_readText_209 0 (by decide) ?_
                    refine WP.bipush (pc := 210) hC dX6_readText_210 9 (by decide) ?_
                    refine WP.callVI (pc := 212) hC dX6_readText_212 (k_X6_figure _ (rd1 G) L n (a + 1) 0 9 hT1 (by decide)) ml_X6_78 rfl rfl (by decide) rfl (Nat.le_of_ble_eq_true rfl) ⟨by decide, by decide⟩ ?_
                    refine WP.ias (pc := 215) hC dX6_readText_215 s rfl (by omega) (by decide) rfl rfl (by decide) ?_
                    rw [show up2 (figF (rd1 G) n 0 9) 7 s (figV (rd1 G) n 0 9) = sm2 G n s from rfl]
                    have e40 : sm2 G n s 0 10 = nI s := sm2_10.trans e10
                    generalize hG4 : sm2 G n s = G4 at e40 ⊢
                    refine WP.aln (pc := 216) hC dX6_readText_216 rfl ?_
                    refine WP.dup (pc := 217) hC dX6_readText_217 rfl ?_
                    refine WP.gf (pc := 218) hC dX6_readText_218 fl_X6_75 (by decide) rfl rfl ?_
                    rw [e40]
                    refine WP.iconst (pc := 221) hC dX6_readText_221 1 (by decide) ?_
                    refine WP.iadd (pc := 222) hC dX6_readText_222 ?_
                    rw [nIp1]
                    refine WP.pf (pc := 223) hC dX6_readText_223 fp_X6_75 rfl rfl (by decide) rfl rfl (Nat.le_of_ble_eq_true rfl) ?_
                    rw [← hG4, show up2 (sm2 G n s) 0 10 (nI (s + 1)) = sm3 G n s from rfl]
                    refine WP.goto (pc := 226) hC dX6_readText_226 46 (by decide) ?_
                    obtain ⟨b, p, q, hR, hab, hne, -⟩ := hI.step han
                    rw [hS] at hR hne
                    refine ih _ b p q hR ?_ (by rw [← hS]; exact hv)
                    unfold mu at hmu ⊢
                    rw [if_pos h52] at hmu
                    rcases Nat.eq_or_lt_of_le hab with e | e
                    · rw [if_neg (hne e.symm)]; omega
                    · split <;> omega
              · refine WP.aln (pc := 80) hC dX6_readText_80 rfl ?_
                refine WP.gf (pc := 81) hC dX6_readText_81 fl_X6_72 (by decide) rfl rfl ?_
                refine WP.iconst (pc := 84) hC dX6_readText_84 5 (by decide) ?_
                refine WP.icge (pc := 85) hC dX6_readText_85 168 (by decide) (fun h85 => ?_) (fun h85 => ?_)
                · have hnr : ¬ (G 8 a = 82 ∧ r < 5) := by
                    rintro ⟨q1, q2⟩
                    first | exact h77 q1 | (rw [e9] at h85; exact nI_ge q2 (by decide) h85)
                  refine WP.aln (pc := 168) hC dX6_readText_168 rfl ?_
                  refine WP.gf (pc := 169) hC dX6_readText_169 fl_X6_31 (by decide) rfl rfl ?_
                  refine WP.aln (pc := 172) hC dX6_readText_172 rfl ?_
                  refine WP.gf (pc := 173) hC dX6_readText_173 fl_X6_69 (by decide) rfl rfl ?_
                  refine WP.ial (pc := 176) hC dX6_readText_176 a e13 (by omega) (by decide) rfl (by decide) ?_
                  refine WP.bipush (pc := 177) hC dX6_readText_177 83 (by decide) ?_
                  refine WP.icne (pc := 179) hC dX6_readText_179 229 (by decide) (fun h179 => ?_) (fun h179 => ?_)
                  · have hns : ¬ (G 8 a = 83 ∧ s < 4) := by
                      rintro ⟨q1, q2⟩
                      first | exact h179 q1 | (rw [e10] at h187; exact nI_ge q2 (by decide) h187)
                    have hS : rtS G n = up2 G 0 14 (nI a) := by unfold rtS; rw [ea, er, es, if_neg hnr, if_neg hns]
                    refine WP.aln (pc := 229) hC dX6_readText_229 rfl ?_
                    refine WP.aln (pc := 230) hC dX6_readText_230 rfl ?_
                    refine WP.gf (pc := 231) hC dX6_readText_231 fl_X6_69 (by decide) rfl rfl ?_
                    refine WP.pf (pc := 234) hC dX6_readText_234 fp_X6_66 rfl rfl (by decide) rfl rfl (Nat.le_of_ble_eq_true rfl) ?_
                    rw [e13]
                    refine WP.goto (pc := 237) hC dX6_readText_237 46 (by decide) ?_
                    obtain ⟨b, p, q, hR, hab, hne, -⟩ := hI.step han
                    rw [hS] at hR hne
                    refine ih _ b p q hR ?_ (by rw [← hS]; exact hv)
                    unfold mu at hmu ⊢
                    rw [if_pos h52] at hmu
                    rcases Nat.eq_or_lt_of_le hab with e | e
                    · rw [if_neg (hne e.symm)]; omega
                    · split <;> omega
                  · refine WP.aln (pc := 182) hC dX6_readText_182 rfl ?_
                    refine WP.gf (pc := 183) hC dX6_readText_183 fl_X6_75 (by decide) rfl rfl ?_
                    refine WP.iconst (pc := 186) hC dX6_readText_186 4 (by decide) ?_
                    refine WP.icge (pc := 187) hC dX6_readText_187 229 (by decide) (fun h187 => ?_) (fun h187 => ?_)
                    · have hns : ¬ (G 8 a = 83 ∧ s < 4) := by
                        rintro ⟨q1, q2⟩
                        first | exact h179 q1 | (rw [e10] at h187; exact nI_ge q2 (by decide) h187)
                      have hS : rtS G n = up2 G 0 14 (nI a) := by unfold rtS; rw [ea, er, es, if_neg hnr, if_neg hns]
                      refine WP.aln (pc := 229) hC dX6_readText_229 rfl ?_
                      refine WP.aln (pc := 230) hC dX6_readText_230 rfl ?_
                      refine WP.gf (pc := 231) hC dX6_readText_231 fl_X6_69 (by decide) rfl rfl ?_
                      refine WP.pf (pc := 234) hC dX6_readText_234 fp_X6_66 rfl rfl (by decide) rfl rfl (Nat.le_of_ble_eq_true rfl) ?_
                      rw [e13]
                      refine WP.goto (pc := 237) hC dX6_readText_237 46 (by decide) ?_
                      obtain ⟨b, p, q, hR, hab, hne, -⟩ := hI.step han
                      rw [hS] at hR hne
                      refine ih _ b p q hR ?_ (by rw [← hS]; exact hv)
                      unfold mu at hmu ⊢
                      rw [if_pos h52] at hmu
                      rcases Nat.eq_or_lt_of_le hab with e | e
                      · rw [if_neg (hne e.symm)]; omega
                      · split <;> omega
                    · have hs4 : s < 4 := by
                        have h187 := h187
                        rw [e10] at h187
                        exact (nI_ltI (b := 4) (by omega) (by decide)).mp (i_nle.mp h187)
                      have hS : rtS G n = sm3 G n s := by unfold rtS; rw [ea, er, es, if_neg hnr, if_pos ⟨h179, hs4⟩]
                      have hT1 := rd1_T hT (by omega)
                      refine WP.aln (pc := 190) hC dX6_readText_190 rfl ?_
                      refine WP.dup (pc := 191) hC dX6_readText_191 rfl ?_
                      refine WP.gf (pc := 192) hC dX6_readText_192 fl_X6_69 (by decide) rfl rfl ?_
                      refine WP.iconst (pc := 195) hC dX6_readText_195 1 (by decide) ?_
                      refine WP.iadd (pc := 196) hC dX6_readText_196 ?_
                      refine WP.pf (pc := 197) hC dX6_readText_197 fp_X6_69 rfl rfl (by decide) rfl rfl (Nat.le_of_ble_eq_true rfl) ?_
                      rw [show up2 G 0 13 (G 0 13 + 1) = rd1 G by unfold rd1; rw [ea, e13, nIp1]]
                      refine WP.aln (pc := 200) hC dX6_readText_200 rfl ?_
                      refine WP.gf (pc := 201) hC dX6_readText_201 fl_X6_28 (by decide) rfl rfl ?_
                      refine WP.aln (pc := 204) hC dX6_readText_204 rfl ?_
                      refine WP.gf (pc := 205) hC dX6_readText_205 fl_X6_75 (by decide) rfl rfl ?_
                      rw [rd1_10, e10]
                      refine WP.aln (pc := 208) hC dX6_readText_208 rfl ?_
                      refine WP.iconst (pc := 209) hC dX6_readText_209 0 (by decide) ?_
                      refine WP.bipush (pc := 210) hC dX6_readText_210 9 (by decide) ?_
                      refine WP.callVI (pc := 212) hC dX6_readText_212 (k_X6_figure _ (rd1 G) L n (a + 1) 0 9 hT1 (by decide)) ml_X6_78 rfl rfl (by decide) rfl (Nat.le_of_ble_eq_true rfl) ⟨by decide, by decide⟩ ?_
                      refine WP.ias (pc := 215) hC dX6_readText_215 s rfl (by omega) (by decide) rfl rfl (by decide) ?_
                      rw [show up2 (figF (rd1 G) n 0 9) 7 s (figV (rd1 G) n 0 9) = sm2 G n s from rfl]
                      have e40 : sm2 G n s 0 10 = nI s := sm2_10.trans e10
                      generalize hG4 : sm2 G n s = G4 at e40 ⊢
                      refine WP.aln (pc := 216) hC dX6_readText_216 rfl ?_
                      refine WP.dup (pc := 217) hC dX6_readText_217 rfl ?_
                      refine WP.gf (pc := 218) hC dX6_readText_218 fl_X6_75 (by decide) rfl rfl ?_
                      rw [e40]
                      refine WP.iconst (pc := 221) hC dX6_readText_221 1 (by decide) ?_
                      refine WP.iadd (pc := 222) hC dX6_readText_222 ?_
                      rw [nIp1]
                      refine WP.pf (pc := 223) hC dX6_readText_223 fp_X6_75 rfl rfl (by decide) rfl rfl (Nat.le_of_ble_eq_true rfl) ?_
                      rw [← hG4, show up2 (sm2 G n s) 0 10 (nI (s + 1)) = sm3 G n s from rfl]
                      refine WP.goto (pc := 226) hC dX6_readText_226 46 (by decide) ?_
                      obtain ⟨b, p, q, hR, hab, hne, -⟩ := hI.step han
                      rw [hS] at hR hne
                      refine ih _ b p q hR ?_ (by rw [← hS]; exact hv)
                      unfold mu at hmu ⊢
                      rw [if_pos h52] at hmu
                      rcases Nat.eq_or_lt_of_le hab with e | e
                      · rw [if_neg (hne e.symm)]; omega
                      · split <;> omega
                · have hr5 : r < 5 := by
                    have h85 := h85
                    rw [e9] at h85
                    exact (nI_ltI (b := 5) (by omega) (by decide)).mp (i_nle.mp h85)
                  have hS : rtS G n = rd5 G n r := by unfold rtS; rw [ea, er, if_pos ⟨h77, hr5⟩]
                  have hT1 := rd1_T hT (by omega)
                  obtain ⟨b1, l1, l2, t1⟩ := hT1.fig (lo := 0) (hi := 9) (by omega)
                  have hT2 : TI (rd2 G n r) n b1 := by unfold rd2; exact t1.up6
                  obtain ⟨b2, l3, l4, t3⟩ := hT2.fig (lo := 1) (hi := 9) (by omega)
                  have hT3 : TI (rd3 G n r) n b2 := by unfold rd3; exact t3.up6
                  refine WP.aln (pc := 88) hC dX6_readText_88 rfl ?_
                  refine WP.dup (pc := 89) hC dX6_readText_89 rfl ?_
                  refine WP.gf (pc := 90) hC dX6_readText_90 fl_X6_69 (by decide) rfl rfl ?_
                  refine WP.iconst (pc := 93) hC dX6_readText_93 1 (by decide) ?_
                  refine WP.iadd (pc := 94) hC dX6_readText_94 ?_
                  refine WP.pf (pc := 95) hC dX6_readText_95 fp_X6_69 rfl rfl (by decide) rfl rfl (Nat.le_of_ble_eq_true rfl) ?_
                  rw [show up2 G 0 13 (G 0 13 + 1) = rd1 G by unfold rd1; rw [ea, e13, nIp1]]
                  refine WP.aln (pc := 98) hC dX6_readText_98 rfl ?_
                  refine WP.gf (pc := 99) hC dX6_readText_99 fl_X6_25 (by decide) rfl rfl ?_
                  refine WP.iconst (pc := 102) hC dX6_readText_102 3 (by decide) ?_
                  refine WP.aln (pc := 103) hC dX6_readText_103 rfl ?_
                  refine WP.gf (pc := 104) hC dX6_readText_104 fl_X6_72 (by decide) rfl rfl ?_
                  rw [rd1_9, e9]
                  refine WP.imul (pc := 107) hC dX6_readText_107 ?_
                  rw [show (3 : Int32) * nI r = nI (3 * r) from pk_mul 3 r]
                  refine WP.aln (pc := 108) hC dX6_readText_108 rfl ?_
                  refine WP.iconst (pc := 109) hC dX6_readText_109 0 (by decide) ?_
                  refine WP.bipush (pc := 110) hC dX6_readText_110 9 (by decide) ?_
                  refine WP.callVI (pc := 112) hC dX6_readText_112 (k_X6_figure _ (rd1 G) L n (a + 1) 0 9 hT1 (by decide)) ml_X6_78 rfl rfl (by decide) rfl (Nat.le_of_ble_eq_true rfl) ⟨by decide, by decide⟩ ?_
                  refine WP.ias (pc := 115) hC dX6_readText_115 (3 * r) rfl (by omega) (by decide) rfl rfl (by decide) ?_
                  rw [show up2 (figF (rd1 G) n 0 9) 6 (3 * r) (figV (rd1 G) n 0 9) = rd2 G n r from rfl]
                  refine WP.aln (pc := 116) hC dX6_readText_116 rfl ?_
                  refine WP.gf (pc := 117) hC dX6_readText_117 fl_X6_25 (by decide) rfl rfl ?_
                  refine WP.iconst (pc := 120) hC dX6_readText_120 3 (by decide) ?_
                  refine WP.aln (pc := 121) hC dX6_readText_121 rfl ?_
                  refine WP.gf (pc := 122) hC dX6_readText_122 fl_X6_72 (by decide) rfl rfl ?_
                  rw [rd2_9, e9]
                  refine WP.imul (pc := 125) hC dX6_readText_125 ?_
                  rw [show (3 : Int32) * nI r = nI (3 * r) from pk_mul 3 r]
                  refine WP.iconst (pc := 126) hC dX6_readText_126 1 (by decide) ?_
                  refine WP.iadd (pc := 127) hC dX6_readText_127 ?_
                  rw [nIp1]
                  refine WP.aln (pc := 128) hC dX6_readText_128 rfl ?_
                  refine WP.iconst (pc := 129) hC dX6_readText_129 1 (by decide) ?_
                  refine WP.bipush (pc := 130) hC dX6_readText_130 9 (by decide) ?_
                  refine WP.callVI (pc := 132) hC dX6_readText_132 (k_X6_figure _ (rd2 G n r) L n b1 1 9 hT2 (by decide)) ml_X6_78 rfl rfl (by decide) rfl (Nat.le_of_ble_eq_true rfl) ⟨by decide, by decide⟩ ?_
                  refine WP.ias (pc := 135) hC dX6_readText_135 (3 * r + 1) rfl (by omega) (by decide) rfl rfl (by decide) ?_
                  rw [show up2 (figF (rd2 G n r) n 1 9) 6 (3 * r + 1) (figV (rd2 G n r) n 1 9) = rd3 G n r from rfl]
                  refine WP.aln (pc := 136) hC dX6_readText_136 rfl ?_
                  refine WP.gf (pc := 137) hC dX6_readText_137 fl_X6_25 (by decide) rfl rfl ?_
                  refine WP.iconst (pc := 140) hC dX6_readText_140 3 (by decide) ?_
                  refine WP.aln (pc := 141) hC dX6_readText_141 rfl ?_
                  refine WP.gf (pc := 142) hC dX6_readText_142 fl_X6_72 (by decide) rfl rfl ?_
                  rw [rd3_9, e9]
                  refine WP.imul (pc := 145) hC dX6_readText_145 ?_
                  rw [show (3 : Int32) * nI r = nI (3 * r) from pk_mul 3 r]
                  refine WP.iconst (pc := 146) hC dX6_readText_146 2 (by decide) ?_
                  refine WP.iadd (pc := 147) hC dX6_readText_147 ?_
                  rw [nIp2]
                  refine WP.aln (pc := 148) hC dX6_readText_148 rfl ?_
                  refine WP.iconst (pc := 149) hC dX6_readText_149 0 (by decide) ?_
                  refine WP.iconst (pc := 150) hC dX6_readText_150 3 (by decide) ?_
                  refine WP.callVI (pc := 151) hC dX6_readText_151 (k_X6_figure _ (rd3 G n r) L n b2 0 3 hT3 (by decide)) ml_X6_78 rfl rfl (by decide) rfl (Nat.le_of_ble_eq_true rfl) ⟨by decide, by decide⟩ ?_
                  refine WP.ias (pc := 154) hC dX6_readText_154 (3 * r + 2) rfl (by omega) (by decide) rfl rfl (by decide) ?_
                  rw [show up2 (figF (rd3 G n r) n 0 3) 6 (3 * r + 2) (figV (rd3 G n r) n 0 3) = rd4 G n r from rfl]
                  have e49 : rd4 G n r 0 9 = nI r := rd4_9.trans e9
                  generalize hG4 : rd4 G n r = G4 at e49 ⊢
                  refine WP.aln (pc := 155) hC dX6_readText_155 rfl ?_
                  refine WP.dup (pc := 156) hC dX6_readText_156 rfl ?_
                  refine WP.gf (pc := 157) hC dX6_readText_157 fl_X6_72 (by decide) rfl rfl ?_
                  rw [e49]
                  refine WP.iconst (pc := 160) hC dX6_readText_160 1 (by decide) ?_
                  refine WP.iadd (pc := 161) hC dX6_readText_161 ?_
                  rw [nIp1]
                  refine WP.pf (pc := 162) hC dX6_readText_162 fp_X6_72 rfl rfl (by decide) rfl rfl (Nat.le_of_ble_eq_true rfl) ?_
                  rw [← hG4, show up2 (rd4 G n r) 0 9 (nI (r + 1)) = rd5 G n r from rfl]
                  refine WP.goto (pc := 165) hC dX6_readText_165 46 (by decide) ?_
                  obtain ⟨b, p, q, hR, hab, hne, -⟩ := hI.step han
                  rw [hS] at hR hne
                  refine ih _ b p q hR ?_ (by rw [← hS]; exact hv)
                  unfold mu at hmu ⊢
                  rw [if_pos h52] at hmu
                  rcases Nat.eq_or_lt_of_le hab with e | e
                  · rw [if_neg (hne e.symm)]; omega
                  · split <;> omega
      refine WP.aln (pc := 41) hC dX6_readText_41 rfl ?_
      refine WP.iconst (pc := 42) hC dX6_readText_42 1 (by decide) ?_
      refine WP.pf (pc := 43) hC dX6_readText_43 fp_X6_69 rfl rfl (by decide) rfl rfl (Nat.le_of_ble_eq_true rfl) ?_
      refine loop 40 _ 1 0 0 ⟨⟨hn.1, hn.2, rfl, by decide⟩, by decide, rfl, by decide, rfl, by decide⟩ ?_ hV
      unfold mu
      have := hn.2
      split <;> omega
    · refine WP.iconst (pc := 39) hC dX6_readText_39 0 (by decide) ?_
      refine WP.iret (pc := 40) hC rfl dX6_readText_40 ?_ ?_ ?_
      all_goals (first | rfl | (unfold rtR1; refine (if_neg ?_).symm; rintro ⟨q1, q2⟩; first | exact h36 q2 | exact q1 ((nI_eq (b := 0) (by have := hn.2; omega) (by decide)).mp (hn.1.symm.trans h25))) | (unfold rtF1; refine (Eq.trans ?_ (if_neg ?_).symm); rfl; rintro ⟨q1, q2⟩; first | exact h36 q2 | exact q1 ((nI_eq (b := 0) (by have := hn.2; omega) (by decide)).mp (hn.1.symm.trans h25))))
set_option maxHeartbeats 4000000 in
theorem k_X6_fault (l : Launch) (F : FF) (L : Int64) (n : Nat) (hn : F 0 12 = nI n ∧ n ≤ 36) : CI l yX6_fault cX6_fault 1 (some .int) (rmx 3 68) wM [.ref 0] F L (rtR1 F n) (rtF1 F n) L := by
  refine mkI [some (.ref 0)] 0 (by decide) rfl (Nat.le_of_ble_eq_true rfl) ?_
  intro x d hx hC
  subst hx
  have hC : Cx x cX6_fault 1 RX6 (some .int) (rmx 3 68) wM d := hC
  refine WP.aln (pc := 0) hC dX6_fault_0 rfl ?_
  refine WP.callVI (pc := 1) hC dX6_fault_1 (k_X6_readText _ F L n hn) ml_X6_82 rfl rfl (by decide) rfl (Nat.le_of_ble_eq_true rfl) ⟨by decide, by decide⟩ ?_
  refine WP.iret (pc := 4) hC rfl dX6_fault_4 ?_ ?_ ?_
  all_goals (rfl)
