/-! ===== the start ===== -/
/-- the two rows that the class holds -/
theorem st_rows {s : State} {b : Nat} {A : Nat → Prop} (hts : ∀ w ∈ lw_tbl, w.before #[Value.ref b] s = true) (hgv : (Jvm.Cond.and given_1 narrow_1).before #[Value.ref b] s = true) (hA : ∀ a : Nat, a < s.heap.size → ¬ A a) :
    ∃ t1 t2 : Nat, va_Z "NewRays" "TENS" "[I" (.ref t1) A s s.heap ∧ va_T .int t1 9 (fun j => .int (tensV.getD j 0)) A s s.heap ∧ va_Z "NewRays" "FACTORIALS" "[I" (.ref t2) A s s.heap ∧ va_T .int t2 6 (fun j => .int (factV.getD j 0)) A s s.heap := by
  have hs := flat_of_before _ hgv
  have hini : (Cond.initialized "NewRays").before #[Value.ref b] s = true := hts _ (by decide +kernel)
  have hl1 : (Cond.laysStatic "NewRays" "TENS" "[I").before #[Value.ref b] s = true := hts _ (by decide +kernel)
  have hl2 : (Cond.laysStatic "NewRays" "FACTORIALS" "[I").before #[Value.ref b] s = true := hts _ (by decide +kernel)
  have ha1 : (Cond.arrayOf (.static "NewRays" "TENS" "[I") .int).before #[Value.ref b] s = true := hs _ (by decide +kernel)
  have ha2 : (Cond.arrayOf (.static "NewRays" "FACTORIALS" "[I") .int).before #[Value.ref b] s = true := hs _ (by decide +kernel)
  have hn1 := va_eqt (hs (Cond.eq (.length (.static "NewRays" "TENS" "[I")) (.int 9)) (by decide +kernel))
  have hn2 := va_eqt (hs (Cond.eq (.length (.static "NewRays" "FACTORIALS" "[I")) (.int 6)) (by decide +kernel))
  have p0 := va_eqt (hs (Cond.eq (.elem (.static "NewRays" "TENS" "[I") (.int 0)) (.int 1)) (by decide +kernel))
  have p1 := va_eqt (hs (Cond.eq (.elem (.static "NewRays" "TENS" "[I") (.int 1)) (.int 10)) (by decide +kernel))
  have p2 := va_eqt (hs (Cond.eq (.elem (.static "NewRays" "TENS" "[I") (.int 2)) (.int 100)) (by decide +kernel))
  have p3 := va_eqt (hs (Cond.eq (.elem (.static "NewRays" "TENS" "[I") (.int 3)) (.int 1000)) (by decide +kernel))
  have p4 := va_eqt (hs (Cond.eq (.elem (.static "NewRays" "TENS" "[I") (.int 4)) (.int 10000)) (by decide +kernel))
  have p5 := va_eqt (hs (Cond.eq (.elem (.static "NewRays" "TENS" "[I") (.int 5)) (.int 100000)) (by decide +kernel))
  have p6 := va_eqt (hs (Cond.eq (.elem (.static "NewRays" "TENS" "[I") (.int 6)) (.int 1000000)) (by decide +kernel))
  have p7 := va_eqt (hs (Cond.eq (.elem (.static "NewRays" "TENS" "[I") (.int 7)) (.int 10000000)) (by decide +kernel))
  have p8 := va_eqt (hs (Cond.eq (.elem (.static "NewRays" "TENS" "[I") (.int 8)) (.int 100000000)) (by decide +kernel))
  have q0 := va_eqt (hs (Cond.eq (.elem (.static "NewRays" "FACTORIALS" "[I") (.int 0)) (.int 1)) (by decide +kernel))
  have q1 := va_eqt (hs (Cond.eq (.elem (.static "NewRays" "FACTORIALS" "[I") (.int 1)) (.int 1)) (by decide +kernel))
  have q2 := va_eqt (hs (Cond.eq (.elem (.static "NewRays" "FACTORIALS" "[I") (.int 2)) (.int 2)) (by decide +kernel))
  have q3 := va_eqt (hs (Cond.eq (.elem (.static "NewRays" "FACTORIALS" "[I") (.int 3)) (.int 6)) (by decide +kernel))
  have q4 := va_eqt (hs (Cond.eq (.elem (.static "NewRays" "FACTORIALS" "[I") (.int 4)) (.int 24)) (by decide +kernel))
  have q5 := va_eqt (hs (Cond.eq (.elem (.static "NewRays" "FACTORIALS" "[I") (.int 5)) (.int 120)) (by decide +kernel))
  obtain ⟨t1, e1, T1⟩ := va_Tof (N := 9) (f := fun j => .int (tensV.getD j 0)) (A := A) (by decide) ha1 hn1 (fun j hj => by
    match j, hj with
    | 0, _ => exact p0
    | 1, _ => exact p1
    | 2, _ => exact p2
    | 3, _ => exact p3
    | 4, _ => exact p4
    | 5, _ => exact p5
    | 6, _ => exact p6
    | 7, _ => exact p7
    | 8, _ => exact p8
    | j + 9, h => exact absurd h (by omega)) hA
  obtain ⟨t2, e2, T2⟩ := va_Tof (N := 6) (f := fun j => .int (factV.getD j 0)) (A := A) (by decide) ha2 hn2 (fun j hj => by
    match j, hj with
    | 0, _ => exact q0
    | 1, _ => exact q1
    | 2, _ => exact q2
    | 3, _ => exact q3
    | 4, _ => exact q4
    | 5, _ => exact q5
    | j + 6, h => exact absurd h (by omega)) hA
  exact ⟨t1, t2, va_Zref hl1 hini e1 hA, T1, va_Zref hl2 hini e2 hA, T2⟩
theorem st_arrays {s : State} {b : Nat} (hts : ∀ w ∈ lw_tbl, w.before #[Value.ref b] s = true) : ∃ cI cZ cB : ClassId, ∀ (k : Nat) (q : ClassId × FieldType), [(cI, FieldType.int), (cZ, .boolean), (cB, .object RX1)][k]? = some q → ArrOfT s q.1 q.2 ∧ va_RA s q.1 q.2 := by
  obtain ⟨cI, kI, oI, i1, i2, i3⟩ := Cond.arrayClass_spec (lw_gw hts _ ac_i)
  obtain ⟨cZ, kZ, oZ, z1, z2, z3⟩ := Cond.arrayClass_spec (lw_gw hts _ ac_z)
  obtain ⟨oB, cB, kB, b1, b2, b3, b4, b5⟩ := Cond.arrayOver_spec (XN.of hts).1
  refine ⟨cI, cZ, cB, fun k q hq => ?_⟩
  match k, hq with
  | 0, hq => cases hq; exact ⟨fun n z => ⟨fun k h => (by cases h), kI, i2, oI, i3⟩, i1⟩
  | 1, hq => cases hq; exact ⟨fun n z => ⟨fun k h => (by cases h), kZ, z2, oZ, z3⟩, z1⟩
  | 2, hq => cases hq; exact ⟨fun n z => ⟨fun k h => (by cases h), kB, b3, oB, b4⟩, ⟨kB, oB, b3, b4, b1, b5⟩⟩
  | k + 3, hq => simp at hq
theorem st_known {s : State} {b : Nat} (hts : ∀ w ∈ lw_tbl, w.before #[Value.ref b] s = true) : ∃ (dC : Nat → ClassId) (dI : Nat → Nat → Nat), ∀ (k : Nat) (q : vw_C), classes[k]? = some q → u_Kn s q.1 q.2.1 q.2.2 (dC k) (dI k) := by
  have hg := lw_gw hts
  obtain ⟨c0, i0, k0⟩ := u_known (C := RX0) (T := TX0) (N := 3) (n := 3) hg in_X0 (hg _ ins_X0)
  obtain ⟨c1, i1, k1⟩ := u_known (C := RX1) (T := TX1) (N := 5) (n := 5) hg in_X1 (hg _ ins_X1)
  obtain ⟨c2, i2, k2⟩ := u_known (C := RX2) (T := TX2) (N := 5) (n := 5) hg in_X2 (hg _ ins_X2)
  obtain ⟨c3, i3, k3⟩ := u_known (C := RX3) (T := TX3) (N := 6) (n := 6) hg in_X3 (hg _ ins_X3)
  obtain ⟨c4, i4, k4⟩ := u_known (C := RX4) (T := TX4) (N := 2) (n := 2) hg in_X4 (hg _ ins_X4)
  obtain ⟨c5, i5, k5⟩ := u_known (C := RX5) (T := TX5) (N := 11) (n := 11) hg in_X5 (hg _ ins_X5)
  obtain ⟨c6, i6, k6⟩ := u_known (C := RX6) (T := TX6) (N := 26) (n := 26) hg in_X6 (hg _ ins_X6)
  refine ⟨fun k => if k = 0 then c0 else if k = 1 then c1 else if k = 2 then c2 else if k = 3 then c3 else if k = 4 then c4 else if k = 5 then c5 else c6, fun k => if k = 0 then i0 else if k = 1 then i1 else if k = 2 then i2 else if k = 3 then i3 else if k = 4 then i4 else if k = 5 then i5 else i6, fun k q hq => ?_⟩
  match k, hq with
  | 0, hq => cases hq; exact k0
  | 1, hq => cases hq; exact k1
  | 2, hq => cases hq; exact k2
  | 3, hq => cases hq; exact k3
  | 4, hq => cases hq; exact k4
  | 5, hq => cases hq; exact k5
  | 6, hq => cases hq; exact k6
  | k + 7, hq => simp [classes] at hq
set_option maxHeartbeats 8000000 in
set_option maxRecDepth 100000 in
theorem whole_start {p : Program} {e : Env} {s : State} {m : MethodId} {below : List Frame} {meth : Method} {c : Code} (l : Launch) {b L : Nat} {xs : Nat → Int32} (hL : L ≤ 320) (C0 : lw_At p s m meth c b L xs) : W p l e room_1 s m #[Value.ref b] below meth c s.heap [] 0 0 (lw_Z below #[Value.ref b] s) (entryFrame m ([Value.ref b] : List Value).toArray 4) := by
  obtain ⟨hx, hb, hr, hml, hown, htl, hX0, hbl, hlocks, hgv⟩ := id C0
  have hA : ∀ q : Nat, s.heap.size ≤ q → LN s q := fun _ h => h
  have hts := lw_gw htl
  have hX := XN.of htl
  obtain ⟨dC, dI, hKc⟩ := st_known htl
  obtain ⟨cI, cZ, cB, hKa⟩ := st_arrays htl
  obtain ⟨t1, t2, z1, z2, z3, z4⟩ := st_rows (A := LN s) htl hgv (fun a ha => Nat.not_le.mpr ha)
  have hS : va_S (LN s) s.heap s.heap [] := va_S.rf
  have hK : va_K (dC, dI) classes [(cI, FieldType.int), (cZ, .boolean), (cB, .object RX1)] s := ⟨hKc, hKa⟩
  have hP : va_P (dC, dI) classes [] s.heap := fun k q h => by simp at h
  have hD : va_D (LN s) [] := ⟨fun i j p q h => by simp at h, fun k q h => by simp at h⟩
  have hl := lv_entry ([.ref b]) (n := 4) (Nat.le_of_ble_eq_true rfl)
  rw [lg_entry_eq]
  generalize (lg_sl ([.ref b]) ++ List.replicate (4 - (lg_sl ([.ref b])).length) Slot.unset).toArray = ls at hl ⊢
  have hl : lv_has ls 4 [(0, .ref b)] := hl
  refine va_new (ci := 5) (fs := [.null, .null, .null, .null, .null, .null, .null, .long 0, .null, .null, .null]) (C := RX5) (T := TX5) (N := 11) hx hb hts in_X5 tyX5 tyX5_ok hown (hts _ kl_L_7) (hts _ ins_X5) (hts _ ini_X5) hK hP hD hS hA rfl (fun j hj => by rcases (show j = 0 ∨ j = 1 ∨ j = 2 ∨ j = 3 ∨ j = 4 ∨ j = 5 ∨ j = 6 ∨ j = 7 ∨ j = 8 ∨ j = 9 ∨ j = 10 by omega) with rfl | rfl | rfl | rfl | rfl | rfl | rfl | rfl | rfl | rfl | rfl <;> rfl) (Nat.le_of_ble_eq_true rfl) (Nat.le_of_ble_eq_true rfl) dL_law_0 (fun h1 H hP hD hS => ?_)
  refine lv_dup hx hb dL_law_3 rfl ?_
  refine ctCallP (own := RL) hx hb hml hown hts hK hX hP hD hS hA (c_X5_init l dC dI cI cZ cB h1) pl_L_9 ini_X5 cd_X5_init im_X5 rfl ⟨by decide, by decide, by decide +kernel⟩ [0] [] rfl (wr := []) rfl (by decide) (by decide) (by decide) hl.1 (Nat.le_of_ble_eq_true rfl) rfl rfl ⟨(Nat.le_of_ble_eq_true rfl), (Nat.le_of_ble_eq_true rfl)⟩ ⟨(Nat.le_of_ble_eq_true rfl), (Nat.le_of_ble_eq_true rfl)⟩ dL_law_4 (fun ad1 H locs hP hD hS => ?_)
  have hP : va_P (dC, dI) classes (WN0 cI cZ cB h1 ad1) H := hP
  have hD : va_D (LN s) (WN0 cI cZ cB h1 ad1) := hD
  refine lv_astore_n (lv' := [(1, .ref h1), (0, .ref b)]) hx hb dL_law_7 rfl hl (by decide) rfl (fun ls hl => ?_)
  refine va_new (ci := 6) (fs := [.int 0, .int 0, .null, .null, .null, .null, .null, .null, .null, .int 0, .int 0, .null, .int 0, .int 0, .int 0, .int 0, .int 0, .null, .int 0, .null, .null, .null, .null, .long 0, .null, .null]) (C := RX6) (T := TX6) (N := 26) hx hb hts in_X6 tyX6 tyX6_ok hown (hts _ kl_L_10) (hts _ ins_X6) (hts _ ini_X6) hK hP hD hS hA rfl (fun j hj => by rcases (show j = 0 ∨ j = 1 ∨ j = 2 ∨ j = 3 ∨ j = 4 ∨ j = 5 ∨ j = 6 ∨ j = 7 ∨ j = 8 ∨ j = 9 ∨ j = 10 ∨ j = 11 ∨ j = 12 ∨ j = 13 ∨ j = 14 ∨ j = 15 ∨ j = 16 ∨ j = 17 ∨ j = 18 ∨ j = 19 ∨ j = 20 ∨ j = 21 ∨ j = 22 ∨ j = 23 ∨ j = 24 ∨ j = 25 by omega) with rfl | rfl | rfl | rfl | rfl | rfl | rfl | rfl | rfl | rfl | rfl | rfl | rfl | rfl | rfl | rfl | rfl | rfl | rfl | rfl | rfl | rfl | rfl | rfl | rfl | rfl <;> rfl) (Nat.le_of_ble_eq_true rfl) (Nat.le_of_ble_eq_true rfl) dL_law_8 (fun h2 H hP hD hS => ?_)
  refine lv_dup hx hb dL_law_11 rfl ?_
  refine ctCallP (own := RL) hx hb hml hown hts hK hX hP hD hS hA (c_X6_init l dC dI cI cZ cB h2) pl_L_12 ini_X6 cd_X6_init im_X6 rfl ⟨by decide, by decide, by decide +kernel⟩ [37] [0, 1, 2, 3, 4, 5, 6, 7, 8, 9, 10, 11, 12, 13, 14, 15, 16, 17, 18, 19, 20, 21, 22, 23, 24, 25, 26, 27, 28, 29, 30, 31, 32, 33, 34, 35, 36] rfl (wr := WN0 cI cZ cB h1 ad1) rfl (by decide) (by decide) (by decide) hl.1 (Nat.le_of_ble_eq_true rfl) rfl rfl ⟨(Nat.le_of_ble_eq_true rfl), (Nat.le_of_ble_eq_true rfl)⟩ ⟨(Nat.le_of_ble_eq_true rfl), (Nat.le_of_ble_eq_true rfl)⟩ dL_law_12 (fun ad2 H locs hP hD hS => ?_)
  have hP : va_P (dC, dI) classes (WN0 cI cZ cB h1 ad1 ++ WM0 cI cZ cB h2 ad2) H := hP
  have hD : va_D (LN s) (WN0 cI cZ cB h1 ad1 ++ WM0 cI cZ cB h2 ad2) := hD
  refine W.widen (k := 100) (n := 1000) (Nat.le_of_ble_eq_true rfl) (Nat.le_of_ble_eq_true rfl) ?_
  refine lv_astore_n (lv' := [(2, .ref h2), (1, .ref h1), (0, .ref b)]) hx hb dL_law_15 rfl hl (by decide) rfl (fun ls hl => ?_)
  refine lv_iconst (v := 0) hx hb dL_law_16 (by decide) ?_
  refine lv_istore_n (lv' := [(3, .int 0), (2, .ref h2), (1, .ref h1), (0, .ref b)]) hx hb dL_law_17 rfl hl (by decide) rfl (fun ls hl => ?_)
  have lenN : (WN0 cI cZ cB h1 ad1).length = 37 := rfl
  have atN : ∀ n, n < 37 → ∃ e, (WN0 cI cZ cB h1 ad1 ++ WM0 cI cZ cB h2 ad2)[n]? = some (adr h1 ad1 n, e) := fun n hn => by
    rw [List.getElem?_append_left (by rw [lenN]; exact hn)]
    exact WN0_at n hn
  have atM : ∀ n, n < 16 → ∃ e, (WN0 cI cZ cB h1 ad1 ++ WM0 cI cZ cB h2 ad2)[37 + n]? = some (adr h2 ad2 n, e) := fun n hn => by
    rw [List.getElem?_append_right (by rw [lenN]; omega), lenN, show 37 + n - 37 = n by omega]
    exact WM0_at n hn
  have hPN : va_P (dC, dI) classes (WN0 cI cZ cB h1 ad1) H := fun k q hq => hP k q (by
    rw [List.getElem?_append_left (List.getElem?_eq_some_iff.mp hq).1]
    exact hq)
  have hPM : va_P (dC, dI) classes (WM0 cI cZ cB h2 ad2) H := fun k q hq => hP (37 + k) q (by
    rw [List.getElem?_append_right (by rw [lenN]; omega), lenN, show 37 + k - 37 = k by omega]
    exact hq)
  have geN : ∀ i, i < 37 → s.heap.size ≤ aN h1 ad1 i := fun i hi => by
    obtain ⟨e, he⟩ := atN _ (pi_lt i hi)
    exact hD.2 _ _ he
  have geM : ∀ j, j < 16 → s.heap.size ≤ adr h2 ad2 j := fun j hj => by
    obtain ⟨e, he⟩ := atM j hj
    exact hD.2 _ _ he
  have nar : ∀ (wd : WD) (a : Nat → Nat), (∀ i, i < wd.2 → s.heap.size ≤ a i) → ∀ q, A1 wd ((dC, dI), a, cI, cZ, cB, t1, t2) q → LN s q := by
    rintro wd a ha q ⟨i, hi, rfl⟩
    exact ha i hi
  have C : Lx (p, l, e, s, m, below, meth, c) b L xs (dC, dI) (aN h1 ad1) (adr h2 ad2) (cI, cZ, cB, t1, t2) := by
    refine ⟨C0, hK, fun i j hi hj he => ?_, fun i j hi hj he => ?_, fun i j hi hj he => ?_, geN, geM, ⟨z1.narrow (nar wN _ geN), z2.narrow (nar wN _ geN), z3.narrow (nar wN _ geN), z4.narrow (nar wN _ geN)⟩, ⟨z1.narrow (nar wM _ geM), z2.narrow (nar wM _ geM), z3.narrow (nar wM _ geM), z4.narrow (nar wM _ geM)⟩⟩
    · obtain ⟨e1, x1⟩ := atN _ (pi_lt i hi)
      obtain ⟨e2, x2⟩ := atN _ (pi_lt j hj)
      exact pi_inj i hi j hj (hD.1 _ _ _ _ x1 x2 he)
    · obtain ⟨e1, x1⟩ := atM i hi
      obtain ⟨e2, x2⟩ := atM j hj
      have := hD.1 _ _ _ _ x1 x2 he
      omega
    · obtain ⟨e1, x1⟩ := atN _ (pi_lt i hi)
      obtain ⟨e2, x2⟩ := atM j hj
      have h3 := hD.1 _ _ _ _ x1 x2 he
      have h4 := pi_lt i hi
      omega
  exact law_loop C hL L 0 (by decide) (by omega) F00 G00 0 fresh_S ls H locs (lv_sub hl [3, 2, 1, 0] rfl) (fresh_N hPN) (fresh_M hPM) hS
