/-! ===== the law's switch and its loop ===== -/
theorem and31 (v : Int32) : ∃ k, k < 32 ∧ v &&& 31 = nI k := by
  refine ⟨v.toBitVec.toNat % 2 ^ 5, Nat.mod_lt _ (by decide), i_ext (fun t ht => ?_)⟩
  rw [lsb_and, show (31 : Int32) = nI (2 ^ 5 - 1) from rfl, lsb_nI ht, lsb_nI ht, Nat.testBit_mod_two_pow, Nat.testBit_two_pow_sub_one, Bool.and_comm]
  rfl
section LW
variable {x : MX} {b N : Nat} {xs : Nat → Int32} {D : va_G} {a1 a2 : Nat → Nat} {cc : C5} {F G : FF} {L1 L2 : Int64}
theorem WL.swIn {v : Int32} {off : Int} {i : Int32} (tgt : Nat) (C : Lx x b N xs D a1 a2 cc) (h1 : ¬ v.toInt < 0) (h2 : ¬ (29 : Int) < v.toInt) (ho : (#[136, 159, 172, 185, 198, 231, 264, 297, 330, 353, 386, 399, 412, 425, 448, 471, 484, 523, 556, 609, 622, 645, 698, 747, 800, 869, 923, 946, 969, 992] : Array Int)[(v.toInt - 0).toNat]? = some off) (ht : ((32 : Nat) : Int) + off = (tgt : Int)) (kk : WL x b D a1 a2 cc i tgt [] F G L1 L2) : WL x b D a1 a2 cc i 32 [.int v] F G L1 L2 := by
  obtain ⟨p, l, e, s, m, below, meth, c⟩ := x
  intro ls H locs hl hP hQ hS
  exact lv_tableIn C.1.1 C.1.2.1 dL_law_32 h1 h2 ho ht (kk ls H locs hl hP hQ hS)
theorem WL.swOut {v : Int32} {i : Int32} (C : Lx x b N xs D a1 a2 cc) (h : v.toInt < 0 ∨ (29 : Int) < v.toInt) (kk : WL x b D a1 a2 cc i 1047 [] F G L1 L2) : WL x b D a1 a2 cc i 32 [.int v] F G L1 L2 := by
  obtain ⟨p, l, e, s, m, below, meth, c⟩ := x
  intro ls H locs hl hP hQ hS
  exact lv_tableOut (tgt := 1047) C.1.1 C.1.2.1 dL_law_32 h (by decide) (kk ls H locs hl hP hQ hS)
set_option maxHeartbeats 4000000 in
theorem law_sw (C : Lx x b N xs D a1 a2 cc) (hN : N ≤ 320) {i0 : Nat} (hi : i0 + 4 < N) (kk : ∀ (F' G' : FF) (L' : Int64), SS F' G' → WL x b D a1 a2 cc (nI i0) 1047 [] F' G' L' L') {L : Int64} (S : SS F G) (v : Int32) : WL x b D a1 a2 cc (nI i0) 32 [.int (v &&& 31)] F G L L := by
  obtain ⟨k, hk, e⟩ := and31 v
  rw [e]
  match k, hk with
  | 0, _ => exact WL.swIn 168 C (by decide) (by decide) rfl (by decide) (law_c0 C hN hi kk S)
  | 1, _ => exact WL.swIn 191 C (by decide) (by decide) rfl (by decide) (law_c1 C hN hi kk S)
  | 2, _ => exact WL.swIn 204 C (by decide) (by decide) rfl (by decide) (law_c2 C hN hi kk S)
  | 3, _ => exact WL.swIn 217 C (by decide) (by decide) rfl (by decide) (law_c3 C hN hi kk S)
  | 4, _ => exact WL.swIn 230 C (by decide) (by decide) rfl (by decide) (law_c4 C hN hi kk S)
  | 5, _ => exact WL.swIn 263 C (by decide) (by decide) rfl (by decide) (law_c5 C hN hi kk S)
  | 6, _ => exact WL.swIn 296 C (by decide) (by decide) rfl (by decide) (law_c6 C hN hi kk S)
  | 7, _ => exact WL.swIn 329 C (by decide) (by decide) rfl (by decide) (law_c7 C hN hi kk S)
  | 8, _ => exact WL.swIn 362 C (by decide) (by decide) rfl (by decide) (law_c8 C hN hi kk S)
  | 9, _ => exact WL.swIn 385 C (by decide) (by decide) rfl (by decide) (law_c9 C hN hi kk S)
  | 10, _ => exact WL.swIn 418 C (by decide) (by decide) rfl (by decide) (law_c10 C hN hi kk S)
  | 11, _ => exact WL.swIn 431 C (by decide) (by decide) rfl (by decide) (law_c11 C hN hi kk S)
  | 12, _ => exact WL.swIn 444 C (by decide) (by decide) rfl (by decide) (law_c12 C hN hi kk S)
  | 13, _ => exact WL.swIn 457 C (by decide) (by decide) rfl (by decide) (law_c13 C hN hi kk S)
  | 14, _ => exact WL.swIn 480 C (by decide) (by decide) rfl (by decide) (law_c14 C hN hi kk S)
  | 15, _ => exact WL.swIn 503 C (by decide) (by decide) rfl (by decide) (law_c15 C hN hi kk S)
  | 16, _ => exact WL.swIn 516 C (by decide) (by decide) rfl (by decide) (law_c16 C hN hi kk S)
  | 17, _ => exact WL.swIn 555 C (by decide) (by decide) rfl (by decide) (law_c17 C hN hi kk S)
  | 18, _ => exact WL.swIn 588 C (by decide) (by decide) rfl (by decide) (law_c18 C hN hi kk S)
  | 19, _ => exact WL.swIn 641 C (by decide) (by decide) rfl (by decide) (law_c19 C hN hi kk S)
  | 20, _ => exact WL.swIn 654 C (by decide) (by decide) rfl (by decide) (law_c20 C hN hi kk S)
  | 21, _ => exact WL.swIn 677 C (by decide) (by decide) rfl (by decide) (law_c21 C hN hi kk S)
  | 22, _ => exact WL.swIn 730 C (by decide) (by decide) rfl (by decide) (law_c22 C hN hi kk S)
  | 23, _ => exact WL.swIn 779 C (by decide) (by decide) rfl (by decide) (law_c23 C hN hi kk S)
  | 24, _ => exact WL.swIn 832 C (by decide) (by decide) rfl (by decide) (law_c24 C hN hi kk S)
  | 25, _ => exact WL.swIn 901 C (by decide) (by decide) rfl (by decide) (law_c25 C hN hi kk S)
  | 26, _ => exact WL.swIn 955 C (by decide) (by decide) rfl (by decide) (law_c26 C hN hi kk S)
  | 27, _ => exact WL.swIn 978 C (by decide) (by decide) rfl (by decide) (law_c27 C hN hi kk S)
  | 28, _ => exact WL.swIn 1001 C (by decide) (by decide) rfl (by decide) (law_c28 C hN hi kk S)
  | 29, _ => exact WL.swIn 1024 C (by decide) (by decide) rfl (by decide) (law_c29 C hN hi kk S)
  | 30, _ => exact WL.swOut C (by decide) (kk _ _ _ S)
  | 31, _ => exact WL.swOut C (by decide) (kk _ _ _ S)
  | k + 32, h => exact absurd h (by omega)
theorem cond_gt {N i0 : Nat} (hN : N ≤ 320) (hi : i0 ≤ 400) : Int32.ofNat N - 5 < nI i0 ↔ N < i0 + 5 := by
  rw [show Int32.ofNat N - 5 = nI N - nI 5 from rfl, i_lt, pk_sub_toInt (by omega) (by omega), nI_toInt (by omega)]
  omega
theorem law_head (C : Lx x b N xs D a1 a2 cc) (hN : N ≤ 320) {i0 : Nat} (h4 : i0 ≤ 400) (k1 : N < i0 + 5 → WL x b D a1 a2 cc (nI i0) 1053 [] F G L1 L2) (k2 : ¬ N < i0 + 5 → WL x b D a1 a2 cc (nI i0) 26 [] F G L1 L2) : WL x b D a1 a2 cc (nI i0) 18 [] F G L1 L2 := by
  obtain ⟨p, l, e, s, m, below, meth, c⟩ := x
  intro ls H locs hl hP hQ hS
  have hbl := C.1.2.2.2.2.2.2.2.1
  refine lv_iload_n C.1.1 C.1.2.1 dL_law_18 rfl (lv_at hl 3 rfl) ?_
  refine lv_aload_n C.1.1 C.1.2.1 dL_law_19 rfl (lv_at hl 0 rfl) ?_
  refine va_slen C.1.1 C.1.2.1 C.1.2.2.2.2.2.2.1 hbl (A := LN s) (Nat.not_le.mpr hbl) hS dL_law_20 ?_
  refine lv_iconst (v := 5) C.1.1 C.1.2.1 dL_law_21 (by decide) ?_
  refine lv_isub C.1.1 C.1.2.1 dL_law_22 ?_
  exact lv_icmp_gt (tgt := 1053) C.1.1 C.1.2.1 dL_law_23 (by decide) (fun h => k1 ((cond_gt hN h4).mp h) ls H locs hl hP hQ hS) (fun h => k2 (fun z => h ((cond_gt hN h4).mpr z)) ls H locs hl hP hQ hS)
theorem law_end (C : Lx x b N xs D a1 a2 cc) {i : Int32} : WL x b D a1 a2 cc i 1053 [] F G L1 L2 := by
  obtain ⟨p, l, e, s, m, below, meth, c⟩ := x
  intro ls H locs hl hP hQ hS
  refine lv_iconst (v := 1) C.1.1 C.1.2.1 dL_law_1053 (by decide) ?_
  refine va_forget (fun q hq => hS.2.2 q hq) ?_
  refine W.widen (k := 600000) (n := 7302250) (Nat.le_of_ble_eq_true rfl) (Nat.le_of_ble_eq_true rfl) ?_
  exact lw_ret C.1.1 C.1.2.1 C.1.2.2.1 C.1.2.2.2.2.2.2.2.2.1 dL_law_1054
theorem law_pick (C : Lx x b N xs D a1 a2 cc) (hN : N ≤ 320) {i0 : Nat} (hi : i0 < N) (kk : WL x b D a1 a2 cc (nI i0) 32 [.int (xs i0 &&& 31)] F G L1 L2) : WL x b D a1 a2 cc (nI i0) 26 [] F G L1 L2 := by
  obtain ⟨p, l, e, s, m, below, meth, c⟩ := x
  intro ls H locs hl hP hQ hS
  have hbl := C.1.2.2.2.2.2.2.2.1
  refine lv_aload_n C.1.1 C.1.2.1 dL_law_26 rfl (lv_at hl 0 rfl) ?_
  refine lv_iload_n C.1.1 C.1.2.1 dL_law_27 rfl (lv_at hl 3 rfl) ?_
  refine va_sld C.1.1 C.1.2.1 C.1.2.2.2.2.2.2.1 hbl (A := LN s) (Nat.not_le.mpr hbl) hS (vp_in_nI hi (by omega)) dL_law_28 ?_
  rw [nI_clamp (by omega)]
  refine lv_bipush (v := 31) C.1.1 C.1.2.1 dL_law_29 (by decide) ?_
  exact lv_iand C.1.1 C.1.2.1 dL_law_31 (kk ls H locs hl hP hQ hS)
theorem law_next (C : Lx x b N xs D a1 a2 cc) {i0 : Nat} (kk : WL x b D a1 a2 cc (nI (i0 + 5)) 18 [] F G L1 L2) : WL x b D a1 a2 cc (nI i0) 1047 [] F G L1 L2 := by
  obtain ⟨p, l, e, s, m, below, meth, c⟩ := x
  intro ls H locs hl hP hQ hS
  refine lv_iinc (v := nI (i0 + 5)) (lv' := [(3, .int (nI (i0 + 5))), (0, .ref b), (1, .ref (a1 0)), (2, .ref (a2 0))]) C.1.1 C.1.2.1 dL_law_1047 hl (k := 3) rfl (nI_add i0 5) (by decide) rfl (fun ls hl => ?_)
  exact lv_goto (tgt := 18) C.1.1 C.1.2.1 dL_law_1050 (by decide) (kk ls H locs (lv_sub hl [1, 2, 3, 0] rfl) hP hQ hS)
theorem law_loop (C : Lx x b N xs D a1 a2 cc) (hN : N ≤ 320) : ∀ (f i0 : Nat), i0 ≤ 400 → N ≤ i0 + f → ∀ (F G : FF) (L : Int64), SS F G → WL x b D a1 a2 cc (nI i0) 18 [] F G L L
  | 0, i0, h4, hf, F, G, L, S => law_head C hN h4 (fun _ => law_end C) (fun z => absurd (show N < i0 + 5 by omega) z)
  | f + 1, i0, h4, hf, F, G, L, S => law_head C hN h4 (fun _ => law_end C) (fun z => law_pick C hN (by omega) (law_sw C hN (by omega) (fun F' G' L' S' => law_next C (law_loop C hN f (i0 + 5) (by omega) (by omega) F' G' L' S')) S (xs i0)))
end LW
