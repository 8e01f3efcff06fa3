/-! ===== small words of the specification ===== -/
def b2 (b : Bool) : Int32 := if b = true then 1 else 0
theorem b2_01 (b : Bool) : b2 b = 0 ∨ b2 b = 1 := by cases b <;> simp [b2]
theorem b2_0 {b : Bool} : b2 b = 0 ↔ b = false := by cases b <;> simp [b2]
theorem b2_1 {b : Bool} : b2 b = 1 ↔ b = true := by cases b <;> simp [b2]
theorem b2_n0 {b : Bool} : ¬ b2 b = 0 ↔ b = true := by cases b <;> simp [b2]
def minI (a b : Int32) : Int32 := if a ≤ b then a else b
def maxI (a b : Int32) : Int32 := if b ≤ a then a else b
def absI (a : Int32) : Int32 := if a < 0 then -a else a
def bc1 (x : Int32) : Int32 := x - ((x.toUInt32 >>> ((1 : Int32).toUInt32 &&& Int32.toUInt32 31)).toInt32 &&& 1431655765)
def bc2 (x : Int32) : Int32 := (x &&& 858993459) + ((x.toUInt32 >>> ((2 : Int32).toUInt32 &&& Int32.toUInt32 31)).toInt32 &&& 858993459)
def bc3 (x : Int32) : Int32 := (x + (x.toUInt32 >>> ((4 : Int32).toUInt32 &&& Int32.toUInt32 31)).toInt32) &&& 252645135
def bc4 (x : Int32) : Int32 := x + (x.toUInt32 >>> ((8 : Int32).toUInt32 &&& Int32.toUInt32 31)).toInt32
def bc5 (x : Int32) : Int32 := x + (x.toUInt32 >>> ((16 : Int32).toUInt32 &&& Int32.toUInt32 31)).toInt32
def bcI (x : Int32) : Int32 := bc5 (bc4 (bc3 (bc2 (bc1 x)))) &&& 63

theorem WP.mmax {x : MC} {cc : ByteArray} {nL : Nat} {own : String} {ret : Option FieldType} {rm : Room} {wd : WD} {d : DC} {Q : State → Prop} {pc : Nat} {lv : List (Option Value)} {st : List Value} {F : FF} {L : Int64} {ix : Nat} {a b : Int32} (hC : Cx x cc nL own ret rm wd d) (hdg : decode cc pc = .ok (.invokestatic ix, 3)) (hw : SL own ix yJ9_max_7cf53 cJ9_max_7cf53 2 (some .int) 2) (hR : 1 ≤ rm.frames ∧ (st.map fun v => v.category).sum + 13 ≤ rm.locals) (kk : WP x nL wd d Q (pc + 3) lv (.int (if a < b then b else a) :: st) F L) : WP x nL wd d Q pc lv (.int b :: .int a :: st) F L := by
  obtain ⟨p, l, e, R, s, m, args, below, meth, c⟩ := x
  intro ls H locs hl hP hS
  obtain ⟨w1, w2, w3, w4, -⟩ := hw
  have hts := hC.2.2.2.2.1
  obtain rfl : R = rm := hC.2.2.2.2.2.2.2.2.2.2
  exact va_mmax hC.1 hC.2.1 (hC.2.2.1.trans hl.1.symm) hC.2.2.2.1 (hts _ w1) (hts _ w2) (hts _ w3) (hts _ w4) hR.1 (by rw [cat_map]; exact hR.2) (Nat.zero_le _) (Nat.zero_le _) hdg (kk ls H locs hl hP hS)
theorem WP.mmin {x : MC} {cc : ByteArray} {nL : Nat} {own : String} {ret : Option FieldType} {rm : Room} {wd : WD} {d : DC} {Q : State → Prop} {pc : Nat} {lv : List (Option Value)} {st : List Value} {F : FF} {L : Int64} {ix : Nat} {a b : Int32} (hC : Cx x cc nL own ret rm wd d) (hdg : decode cc pc = .ok (.invokestatic ix, 3)) (hw : SL own ix yJ9_min_7cf53 cJ9_min_7cf53 2 (some .int) 2) (hR : 1 ≤ rm.frames ∧ (st.map fun v => v.category).sum + 13 ≤ rm.locals) (kk : WP x nL wd d Q (pc + 3) lv (.int (if b < a then b else a) :: st) F L) : WP x nL wd d Q pc lv (.int b :: .int a :: st) F L := by
  obtain ⟨p, l, e, R, s, m, args, below, meth, c⟩ := x
  intro ls H locs hl hP hS
  obtain ⟨w1, w2, w3, w4, -⟩ := hw
  have hts := hC.2.2.2.2.1
  obtain rfl : R = rm := hC.2.2.2.2.2.2.2.2.2.2
  exact va_mmin hC.1 hC.2.1 (hC.2.2.1.trans hl.1.symm) hC.2.2.2.1 (hts _ w1) (hts _ w2) (hts _ w3) (hts _ w4) hR.1 (by rw [cat_map]; exact hR.2) (Nat.zero_le _) (Nat.zero_le _) hdg (kk ls H locs hl hP hS)
theorem WP.mabs {x : MC} {cc : ByteArray} {nL : Nat} {own : String} {ret : Option FieldType} {rm : Room} {wd : WD} {d : DC} {Q : State → Prop} {pc : Nat} {lv : List (Option Value)} {st : List Value} {F : FF} {L : Int64} {ix : Nat} {a : Int32} (hC : Cx x cc nL own ret rm wd d) (hdg : decode cc pc = .ok (.invokestatic ix, 3)) (hw : SL own ix yJ9_abs_0f7a4 cJ9_abs_0f7a4 1 (some .int) 1) (hR : 1 ≤ rm.frames ∧ (st.map fun v => v.category).sum + 13 ≤ rm.locals) (kk : WP x nL wd d Q (pc + 3) lv (.int (if 0 ≤ a then a else 0 - a) :: st) F L) : WP x nL wd d Q pc lv (.int a :: st) F L := by
  obtain ⟨p, l, e, R, s, m, args, below, meth, c⟩ := x
  intro ls H locs hl hP hS
  obtain ⟨w1, w2, w3, w4, -⟩ := hw
  have hts := hC.2.2.2.2.1
  obtain rfl : R = rm := hC.2.2.2.2.2.2.2.2.2.2
  exact va_mabs hC.1 hC.2.1 (hC.2.2.1.trans hl.1.symm) hC.2.2.2.1 (hts _ w1) (hts _ w2) (hts _ w3) (hts _ w4) hR.1 (by rw [cat_map]; exact hR.2) (Nat.zero_le _) (Nat.zero_le _) hdg (kk ls H locs hl hP hS)
set_option maxHeartbeats 4000000 in
theorem k_J6_bitCount_0f7a4 (l : Launch) (F : FF) (L : Int64) (wd : WD) (a : Int32) : CI l yJ6_bitCount_0f7a4 cJ6_bitCount_0f7a4 1 (some .int) (rmx 0 0) wd [.int a] F L (bcI a) F L := by
  refine mkI [some (.int a)] 0 (by decide) rfl (Nat.le_of_ble_eq_true rfl) ?_
  intro x d hx hC
  subst hx
  have hC : Cx x cJ6_bitCount_0f7a4 1 RJ6 (some .int) (rmx 0 0) wd d := hC
  refine WP.iln (pc := 0) hC dJ6_bitCount_0f7a4_0 rfl ?_
  refine WP.iln (pc := 1) hC dJ6_bitCount_0f7a4_1 rfl ?_
  refine WP.iconst (pc := 2) hC dJ6_bitCount_0f7a4_2 1 (by decide) ?_
  refine WP.iushr (pc := 3) hC dJ6_bitCount_0f7a4_3 ?_
  refine WP.ldcw (pc := 4) hC dJ6_bitCount_0f7a4_4 cs_J6_265 ?_
  refine WP.iand (pc := 7) hC dJ6_bitCount_0f7a4_7 ?_
  refine WP.isub (pc := 8) hC dJ6_bitCount_0f7a4_8 ?_
  refine WP.isn (lv' := [_]) (pc := 9) hC dJ6_bitCount_0f7a4_9 rfl (by decide) rfl ?_
  refine WP.iln (pc := 10) hC dJ6_bitCount_0f7a4_10 rfl ?_
  refine WP.ldcw (pc := 11) hC dJ6_bitCount_0f7a4_11 cs_J6_266 ?_
  refine WP.iand (pc := 14) hC dJ6_bitCount_0f7a4_14 ?_
  refine WP.iln (pc := 15) hC dJ6_bitCount_0f7a4_15 rfl ?_
  refine WP.iconst (pc := 16) hC dJ6_bitCount_0f7a4_16 2 (by decide) ?_
  refine WP.iushr (pc := 17) hC dJ6_bitCount_0f7a4_17 ?_
  refine WP.ldcw (pc := 18) hC dJ6_bitCount_0f7a4_18 cs_J6_266 ?_
  refine WP.iand (pc := 21) hC dJ6_bitCount_0f7a4_21 ?_
  refine WP.iadd (pc := 22) hC dJ6_bitCount_0f7a4_22 ?_
  refine WP.isn (lv' := [_]) (pc := 23) hC dJ6_bitCount_0f7a4_23 rfl (by decide) rfl ?_
  refine WP.iln (pc := 24) hC dJ6_bitCount_0f7a4_24 rfl ?_
  refine WP.iln (pc := 25) hC dJ6_bitCount_0f7a4_25 rfl ?_
  refine WP.iconst (pc := 26) hC dJ6_bitCount_0f7a4_26 4 (by decide) ?_
  refine WP.iushr (pc := 27) hC dJ6_bitCount_0f7a4_27 ?_
  refine WP.iadd (pc := 28) hC dJ6_bitCount_0f7a4_28 ?_
  refine WP.ldcw (pc := 29) hC dJ6_bitCount_0f7a4_29 cs_J6_267 ?_
  refine WP.iand (pc := 32) hC dJ6_bitCount_0f7a4_32 ?_
  refine WP.isn (lv' := [_]) (pc := 33) hC dJ6_bitCount_0f7a4_33 rfl (by decide) rfl ?_
  refine WP.iln (pc := 34) hC dJ6_bitCount_0f7a4_34 rfl ?_
  refine WP.iln (pc := 35) hC dJ6_bitCount_0f7a4_35 rfl ?_
  refine WP.bipush (pc := 36) hC dJ6_bitCount_0f7a4_36 8 (by decide) ?_
  refine WP.iushr (pc := 38) hC dJ6_bitCount_0f7a4_38 ?_
  refine WP.iadd (pc := 39) hC dJ6_bitCount_0f7a4_39 ?_
  refine WP.isn (lv' := [_]) (pc := 40) hC dJ6_bitCount_0f7a4_40 rfl (by decide) rfl ?_
  refine WP.iln (pc := 41) hC dJ6_bitCount_0f7a4_41 rfl ?_
  refine WP.iln (pc := 42) hC dJ6_bitCount_0f7a4_42 rfl ?_
  refine WP.bipush (pc := 43) hC dJ6_bitCount_0f7a4_43 16 (by decide) ?_
  refine WP.iushr (pc := 45) hC dJ6_bitCount_0f7a4_45 ?_
  refine WP.iadd (pc := 46) hC dJ6_bitCount_0f7a4_46 ?_
  refine WP.isn (lv' := [_]) (pc := 47) hC dJ6_bitCount_0f7a4_47 rfl (by decide) rfl ?_
  refine WP.iln (pc := 48) hC dJ6_bitCount_0f7a4_48 rfl ?_
  refine WP.bipush (pc := 49) hC dJ6_bitCount_0f7a4_49 63 (by decide) ?_
  refine WP.iand (pc := 51) hC dJ6_bitCount_0f7a4_51 ?_
  refine WP.iret (pc := 52) hC rfl dJ6_bitCount_0f7a4_52 ?_ ?_ ?_
  all_goals (rfl)
