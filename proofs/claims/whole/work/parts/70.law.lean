/-! THE CLAIM OUT OF ONE WALK OF THE LAW'S BODY. Your part is whole_start (and what it stands on); all else here is the same for every law, but numbers. -/
def R_law : String := "NewRaysLaw"
def lw_P (b : Addr) (xs : List Int32) (args : Array Value) (s : State) : Prop := args = #[.ref b] ∧ s.IntsAt b xs ∧ xs.length ≤ 320 ∧ (Jvm.Cond.and given_1 narrow_1).before args s = true
def lw_Q (_ : Array Value) (s : State) (o : Outcome) (t : State) : Prop := o = .returned (some (.int 1)) ∧ Framed s o t [] 600000 7302250
def lw_Z (below : List Frame) (a : Array Value) (s : State) : State → Prop := fun t => ∃ o, t.status = .running ∧ Ended t below o ∧ lw_Q a s o t
/-- the law's own end, with 1 on the stack, nothing written that was there before, its room as the claim has it -/
theorem lw_ret {p : Program} {l : Launch} {e : Env} {s : State} {m : MethodId} {below : List Frame} {meth : Method} {c : Code} {b : Nat} (hx : p.tables.exec = Jvm.exec) (hb : c.code = code) (hr : meth.sig.returnType = ret) (hlocks : meth.locks = false) {pc : Nat} {H : Heap} {ls : Array Slot} (hdg : decode code pc = .ok (.ireturn, 1)) : W p l e room_1 s m #[Value.ref b] below meth c H [] 600000 7302250 (lw_Z below #[Value.ref b] s) (F0 m pc ls [.int 1]) := by
  intro T hT X
  obtain ⟨fs, hret, hrun, hended, hW, hframe⟩ := X.leave (v := some (.int 1)) (hlocks := hlocks) (fun h => by rw [hr] at h; cases h)
  have hmeth' : T.vm.method? m = some meth := X.method'
  refine ⟨T.setFrames fs, ?_, .returned (some (.int 1)), hrun, hended, rfl, ⟨_, rfl⟩, hW, hframe⟩
  jvm_step X.here [X.here.top, hx, hb, hdg, hmeth', hr, ret, narrow_b1]
  (try refine ⟨rfl, ?_⟩); (try refine ⟨rfl, ?_⟩)
  first | (intro acts; rw [hret _ acts rfl rfl rfl]) | rw [hret _ _ rfl rfl rfl]
  exact Steps.refl _
/-- what holds at the law's entry: the machine, the code, the tables' words (any of lw_tbl by 'hts w (by decide +kernel)'), the script of L ints xs at the cell b, what the Statement gives of the start (any of its parts by flat_of_before) -/
def lw_At (p : Program) (s : State) (m : MethodId) (meth : Method) (c : Code) (b L : Nat) (xs : Nat → Int32) : Prop :=
  p.tables.exec = Jvm.exec ∧ c.code = code ∧ meth.sig.returnType = ret ∧ c.maxLocals = 4 ∧ s.vm.findClass R_law = some m.cls ∧ (∀ w ∈ lw_tbl, w.before #[Value.ref b] s = true) ∧ va_X b L xs s s.heap ∧ b < s.heap.size ∧ meth.locks = false ∧ (Jvm.Cond.and given_1 narrow_1).before #[Value.ref b] s = true

/-! ===== the law, row by row: two worlds at once ===== -/
abbrev MX : Type := Program × Launch × Env × State × MethodId × List Frame × Method × Code
abbrev C5 : Type := ClassId × ClassId × ClassId × Nat × Nat
def LN (s : State) : Nat → Prop := fun q => s.heap.size ≤ q
/-- what holds through the law -/
def Lx (x : MX) (b N : Nat) (xs : Nat → Int32) (D : va_G) (a1 a2 : Nat → Nat) (cc : C5) : Prop := match x with
  | (p, _, _, s, m, _, meth, c) => lw_At p s m meth c b N xs ∧ va_K D classes (tys3 (D, a1, cc)) s ∧ apart wN (D, a1, cc) ∧ apart wM (D, a2, cc) ∧ (∀ i j, i < 37 → j < 16 → a1 i ≠ a2 j) ∧ (∀ i, i < 37 → s.heap.size ≤ a1 i) ∧ (∀ j, j < 16 → s.heap.size ≤ a2 j) ∧ St wN (D, a1, cc) s ∧ St wM (D, a2, cc) s
def WL (x : MX) (b : Nat) (D : va_G) (a1 a2 : Nat → Nat) (cc : C5) (i : Int32) (pc : Nat) (st : List Value) (F G : FF) (L1 L2 : Int64) : Prop := match x with
  | (p, l, e, s, m, below, meth, c) => ∀ (ls : Array Slot) (H : Heap) (locs : List Loc), lv_has ls 4 [(0, .ref b), (1, .ref (a1 0)), (2, .ref (a2 0)), (3, .int i)] → va_P D classes (tw wN (D, a1, cc) F L1) H → va_P D classes (tw wM (D, a2, cc) G L2) H → va_S (LN s) s.heap H locs → W p l e room_1 s m #[Value.ref b] below meth c H locs 100 1000 (lw_Z below #[Value.ref b] s) (F0 m pc ls st)
theorem lw_gw {s : State} {b : Nat} (h : ∀ w ∈ lw_tbl, w.before #[Value.ref b] s = true) : ∀ w ∈ gw, w.before #[Value.ref b] s = true := fun w hw => h w (gw_good w hw).1
theorem St.keptL {wd : WD} {d : DC} {u U : State} {H : Heap} {locs : List Loc} (hvm : u.vm.Alike U.vm) (hh : U.heap = H) (hS : va_S (LN u) u.heap H locs) (h : St wd d u) : St wd d U := by
  obtain ⟨h1, h2, h3, h4⟩ := h
  have hk : ∀ a : Nat, a < u.heap.size → ¬ A1 wd d a → U.heap[a]? = u.heap[a]? := fun a ha _ => by
    rw [hh]
    exact hS.2.1 a ha (Nat.not_le.mpr ha)
  exact ⟨(h1.moved hvm).kept hk, (h2.moved hvm).kept hk, (h3.moved hvm).kept hk, (h4.moved hvm).kept hk⟩
section LW
variable {x : MX} {b N : Nat} {xs : Nat → Int32} {D : va_G} {a1 a2 : Nat → Nat} {cc : C5} {i : Int32} {pc : Nat} {st : List Value} {F G : FF} {L1 L2 : Int64}
theorem WL.al0 (C : Lx x b N xs D a1 a2 cc) (hdg : decode code pc = .ok (.aload_n 0, 1)) (kk : WL x b D a1 a2 cc i (pc + 1) (.ref b :: st) F G L1 L2) : WL x b D a1 a2 cc i pc st F G L1 L2 := by
  obtain ⟨p, l, e, s, m, below, meth, c⟩ := x
  intro ls H locs hl hP hQ hS
  exact lv_aload_n C.1.1 C.1.2.1 hdg rfl (lv_at hl 0 rfl) (kk ls H locs hl hP hQ hS)
theorem WL.al1 (C : Lx x b N xs D a1 a2 cc) (hdg : decode code pc = .ok (.aload_n 1, 1)) (kk : WL x b D a1 a2 cc i (pc + 1) (.ref (a1 0) :: st) F G L1 L2) : WL x b D a1 a2 cc i pc st F G L1 L2 := by
  obtain ⟨p, l, e, s, m, below, meth, c⟩ := x
  intro ls H locs hl hP hQ hS
  exact lv_aload_n C.1.1 C.1.2.1 hdg rfl (lv_at hl 1 rfl) (kk ls H locs hl hP hQ hS)
theorem WL.al2 (C : Lx x b N xs D a1 a2 cc) (hdg : decode code pc = .ok (.aload_n 2, 1)) (kk : WL x b D a1 a2 cc i (pc + 1) (.ref (a2 0) :: st) F G L1 L2) : WL x b D a1 a2 cc i pc st F G L1 L2 := by
  obtain ⟨p, l, e, s, m, below, meth, c⟩ := x
  intro ls H locs hl hP hQ hS
  exact lv_aload_n C.1.1 C.1.2.1 hdg rfl (lv_at hl 2 rfl) (kk ls H locs hl hP hQ hS)
/-- an int of the script: five instructions -/
theorem WL.arg {i0 k : Nat} {n : Int} (C : Lx x b N xs D a1 a2 cc) (hN : N ≤ 320) (hi : i0 + k < N) (h0 : decode code pc = .ok (.aload_n 0, 1)) (h1 : decode code (pc + 1) = .ok (.iload_n 3, 1)) (h2 : decode code (pc + 2) = .ok (.iconst n, 1)) (h3 : decode code (pc + 3) = .ok (.iadd, 1)) (h4 : decode code (pc + 4) = .ok (.iaload, 1)) (hn : Int32.ofInt n = nI k) (kk : WL x b D a1 a2 cc (nI i0) (pc + 5) (.int (xs (i0 + k)) :: st) F G L1 L2) : WL x b D a1 a2 cc (nI i0) pc st F G L1 L2 := by
  obtain ⟨p, l, e, s, m, below, meth, c⟩ := x
  intro ls H locs hl hP hQ hS
  have hbl := C.1.2.2.2.2.2.2.2.1
  refine lv_aload_n C.1.1 C.1.2.1 h0 rfl (lv_at hl 0 rfl) ?_
  refine lv_iload_n C.1.1 C.1.2.1 h1 rfl (lv_at hl 3 rfl) ?_
  refine lv_iconst C.1.1 C.1.2.1 h2 hn ?_
  refine lv_iadd C.1.1 C.1.2.1 h3 ?_
  rw [nI_add]
  refine va_sld C.1.1 C.1.2.1 C.1.2.2.2.2.2.2.1 hbl (A := LN s) (Nat.not_le.mpr hbl) hS (vp_in_nI hi (by omega)) h4 ?_
  rw [nI_clamp (by omega)]
  exact kk ls H locs hl hP hQ hS
def nz (v : Int32) : Bool := !(decide (v = 0))
/-- an int as a truth: four instructions -/
theorem WL.bool {v : Int32} (C : Lx x b N xs D a1 a2 cc) (h0 : decode code pc = .ok (.ifCond .eq 7, 3)) (h1 : decode code (pc + 3) = .ok (.iconst 1, 1)) (h2 : decode code (pc + 4) = .ok (.goto 4, 3)) (h3 : decode code (pc + 7) = .ok (.iconst 0, 1)) (kk : WL x b D a1 a2 cc i (pc + 8) (.int (b2 (nz v)) :: st) F G L1 L2) : WL x b D a1 a2 cc i pc (.int v :: st) F G L1 L2 := by
  obtain ⟨p, l, e, s, m, below, meth, c⟩ := x
  intro ls H locs hl hP hQ hS
  refine lv_if_eq (tgt := pc + 7) C.1.1 C.1.2.1 h0 (by omega) (fun h => ?_) (fun h => ?_)
  · have e0 : b2 (nz v) = 0 := by
      unfold nz
      rw [decide_eq_true h]
      rfl
    rw [e0] at kk
    exact lv_iconst C.1.1 C.1.2.1 h3 rfl (kk ls H locs hl hP hQ hS)
  · have e0 : b2 (nz v) = 1 := by
      unfold nz
      rw [decide_eq_false h]
      rfl
    rw [e0] at kk
    refine lv_iconst C.1.1 C.1.2.1 h1 rfl ?_
    exact lv_goto (tgt := pc + 8) C.1.1 C.1.2.1 h2 (by omega) (kk ls H locs hl hP hQ hS)
theorem lxA1 {p : Program} {l : Launch} {e : Env} {s : State} {m : MethodId} {below : List Frame} {meth : Method} {c : Code} {H : Heap} {locs : List Loc} (C : Lx (p, l, e, s, m, below, meth, c) b N xs D a1 a2 cc) (hS : va_S (LN s) s.heap H locs) : ∀ q, AA wN (D, a1, cc) H.size q → LN s q := by
  rintro q (⟨i, hi, rfl⟩ | h)
  · exact C.2.2.2.2.2.1 i hi
  · exact Nat.le_trans hS.1 h
theorem lxA2 {p : Program} {l : Launch} {e : Env} {s : State} {m : MethodId} {below : List Frame} {meth : Method} {c : Code} {H : Heap} {locs : List Loc} (C : Lx (p, l, e, s, m, below, meth, c) b N xs D a1 a2 cc) (hS : va_S (LN s) s.heap H locs) : ∀ q, AA wM (D, a2, cc) H.size q → LN s q := by
  rintro q (⟨i, hi, rfl⟩ | h)
  · exact C.2.2.2.2.2.2.1 i hi
  · exact Nat.le_trans hS.1 h
theorem lxK2 {p : Program} {l : Launch} {e : Env} {s : State} {m : MethodId} {below : List Frame} {meth : Method} {c : Code} {H H1 : Heap} (C : Lx (p, l, e, s, m, below, meth, c) b N xs D a1 a2 cc) (hQ : va_P D classes (tw wM (D, a2, cc) G L2) H) (hk : ∀ q : Nat, q < H.size → ¬ AA wN (D, a1, cc) H.size q → H1[q]? = H[q]?) : va_P D classes (tw wM (D, a2, cc) G L2) H1 := by
  refine hQ.kept (fun k q hq => hk q.1 (hQ k q hq).lt ?_)
  have hlt := (hQ k q hq).lt
  have h1 : k < 16 := by
    have := (List.getElem?_eq_some_iff.mp hq).1
    rw [tw_len] at this
    exact this
  rw [tw_get h1] at hq
  cases hq
  rintro (⟨i, hi, he⟩ | h)
  · exact C.2.2.2.2.1 i k hi h1 he.symm
  · exact absurd h (Nat.not_le.mpr hlt)
theorem lxK1 {p : Program} {l : Launch} {e : Env} {s : State} {m : MethodId} {below : List Frame} {meth : Method} {c : Code} {H H1 : Heap} (C : Lx (p, l, e, s, m, below, meth, c) b N xs D a1 a2 cc) (hQ : va_P D classes (tw wN (D, a1, cc) F L1) H) (hk : ∀ q : Nat, q < H.size → ¬ AA wM (D, a2, cc) H.size q → H1[q]? = H[q]?) : va_P D classes (tw wN (D, a1, cc) F L1) H1 := by
  refine hQ.kept (fun k q hq => hk q.1 (hQ k q hq).lt ?_)
  have hlt := (hQ k q hq).lt
  have h1 : k < 37 := by
    have := (List.getElem?_eq_some_iff.mp hq).1
    rw [tw_len] at this
    exact this
  rw [tw_get h1] at hq
  cases hq
  rintro (⟨i, hi, he⟩ | h)
  · exact C.2.2.2.2.1 k i h1 hi he
  · exact absurd h (Nat.not_le.mpr hlt)
theorem WL.callNI {ix n f k nL' ci : Nat} {y : MethodName} {bb : ByteArray} {ret' : Option FieldType} {av rest fs : List Value} {r : Int32} {F' : FF} {L' : Int64} (C : Lx x b N xs D a1 a2 cc) (hdg : decode code pc = .ok (.invokevirtual ix, 3)) (hM : CI x.2.1 y bb nL' ret' (rmx f k) wN (.ref 0 :: av) F L1 r F' L') (hw : VL RL ix ci y bb nL' ret' n) (hn : av.length = n) (hst : st = (av.map (tv a1)).reverse ++ .ref (a1 0) :: rest) (hc : cwd wN (D, a1, cc) 0 (F 0) L1 = .inr (ci, fs)) (hcat : (rest.map fun v => v.category).sum ≤ 8) (hR : f + 1 ≤ 9 ∧ 8 + (nL' + 11) + k ≤ 340) (kk : WL x b D a1 a2 cc i (pc + 3) (.int r :: rest) F' G L' L2) : WL x b D a1 a2 cc i pc st F G L1 L2 := by
  obtain ⟨p, l, e, s, m, below, meth, c⟩ := x
  obtain ⟨w1, w2, w3, w4, w5, w6, w7, w8, T, NN, w9⟩ := hw
  intro ls H locs hl hP hQ hS
  subst hst
  have hts := lw_gw C.1.2.2.2.2.2.1
  have hK : va_K D classes (tys3 (D, a1, cc)) s := C.2.1
  refine va_calli (va_runV (As := av.map (tv a1)) (rest := rest) (Ts := gw) (own := RL) (C := y.cls) (b := a1 0) ⟨C.1.1, C.1.2.1, C.1.2.2.2.1, C.1.2.2.2.2.1, hts⟩ (hM (D, a1, cc) H.size) ⟨cb_of hts w1 w4 w5 ⟨w6, w7, w8⟩ hR, hts _ w2, hts _ w3⟩ ⟨Pre0_blind, va_recv hK hP (ci := ci) (q := (y.cls, T, NN)) (q0 := 0) (fs := fs.map (tv a1)) w9 (by rw [tw_get (show 0 < 37 by decide), hc]; rfl), fun U hU hW => ⟨rfl, by rw [hU], by rw [hU]; exact hP, va_K.moved hW.alike hK, C.2.2.1, St.keptL hW.alike hU hS C.2.2.2.2.2.2.2.1⟩⟩ rfl (by rw [List.length_map]; exact hn) hl.1 rfl (lv_room hcat) hdg ⟨Nat.le_of_ble_eq_true rfl, Nat.le_of_ble_eq_true rfl⟩) hS (fun q _ h => lxA1 C hS q h) (lxA1 C hS) (fun r1 u t H1 locs1 ht _ hp hB _ hk1 hS1 => ?_)
  subst hp
  rw [ht] at hB
  exact kk ls H1 locs1 hl hB (lxK2 C hQ hk1) hS1
theorem WL.callMI {ix n f k nL' ci : Nat} {y : MethodName} {bb : ByteArray} {ret' : Option FieldType} {av rest fs : List Value} {r : Int32} {F' : FF} {L' : Int64} (C : Lx x b N xs D a1 a2 cc) (hdg : decode code pc = .ok (.invokevirtual ix, 3)) (hM : CI x.2.1 y bb nL' ret' (rmx f k) wM (.ref 0 :: av) G L2 r F' L') (hw : VL RL ix ci y bb nL' ret' n) (hn : av.length = n) (hst : st = (av.map (tv a2)).reverse ++ .ref (a2 0) :: rest) (hc : cwd wM (D, a2, cc) 0 (G 0) L2 = .inr (ci, fs)) (hcat : (rest.map fun v => v.category).sum ≤ 8) (hR : f + 1 ≤ 9 ∧ 8 + (nL' + 11) + k ≤ 340) (kk : WL x b D a1 a2 cc i (pc + 3) (.int r :: rest) F F' L1 L') : WL x b D a1 a2 cc i pc st F G L1 L2 := by
  obtain ⟨p, l, e, s, m, below, meth, c⟩ := x
  obtain ⟨w1, w2, w3, w4, w5, w6, w7, w8, T, NN, w9⟩ := hw
  intro ls H locs hl hP hQ hS
  subst hst
  have hts := lw_gw C.1.2.2.2.2.2.1
  have hK : va_K D classes (tys3 (D, a2, cc)) s := C.2.1
  refine va_calli (va_runV (As := av.map (tv a2)) (rest := rest) (Ts := gw) (own := RL) (C := y.cls) (b := a2 0) ⟨C.1.1, C.1.2.1, C.1.2.2.2.1, C.1.2.2.2.2.1, hts⟩ (hM (D, a2, cc) H.size) ⟨cb_of hts w1 w4 w5 ⟨w6, w7, w8⟩ hR, hts _ w2, hts _ w3⟩ ⟨Pre0_blind, va_recv hK hQ (ci := ci) (q := (y.cls, T, NN)) (q0 := 0) (fs := fs.map (tv a2)) w9 (by rw [tw_get (show 0 < 16 by decide), hc]; rfl), fun U hU hW => ⟨rfl, by rw [hU], by rw [hU]; exact hQ, va_K.moved hW.alike hK, C.2.2.2.1, St.keptL hW.alike hU hS C.2.2.2.2.2.2.2.2⟩⟩ rfl (by rw [List.length_map]; exact hn) hl.1 rfl (lv_room hcat) hdg ⟨Nat.le_of_ble_eq_true rfl, Nat.le_of_ble_eq_true rfl⟩) hS (fun q _ h => lxA2 C hS q h) (lxA2 C hS) (fun r1 u t H1 locs1 ht _ hp hB _ hk1 hS1 => ?_)
  subst hp
  rw [ht] at hB
  exact kk ls H1 locs1 hl (lxK1 C hP hk1) hB hS1
theorem WL.callNL {ix n f k nL' ci : Nat} {y : MethodName} {bb : ByteArray} {ret' : Option FieldType} {av rest fs : List Value} {r : Int64} {F' : FF} {L' : Int64} (C : Lx x b N xs D a1 a2 cc) (hdg : decode code pc = .ok (.invokevirtual ix, 3)) (hM : CL x.2.1 y bb nL' ret' (rmx f k) wN (.ref 0 :: av) F L1 r F' L') (hw : VL RL ix ci y bb nL' ret' n) (hn : av.length = n) (hst : st = (av.map (tv a1)).reverse ++ .ref (a1 0) :: rest) (hc : cwd wN (D, a1, cc) 0 (F 0) L1 = .inr (ci, fs)) (hcat : (rest.map fun v => v.category).sum ≤ 8) (hR : f + 1 ≤ 9 ∧ 8 + (nL' + 11) + k ≤ 340) (kk : WL x b D a1 a2 cc i (pc + 3) (.long r :: rest) F' G L' L2) : WL x b D a1 a2 cc i pc st F G L1 L2 := by
  obtain ⟨p, l, e, s, m, below, meth, c⟩ := x
  obtain ⟨w1, w2, w3, w4, w5, w6, w7, w8, T, NN, w9⟩ := hw
  intro ls H locs hl hP hQ hS
  subst hst
  have hts := lw_gw C.1.2.2.2.2.2.1
  have hK : va_K D classes (tys3 (D, a1, cc)) s := C.2.1
  refine va_calll (va_runV (As := av.map (tv a1)) (rest := rest) (Ts := gw) (own := RL) (C := y.cls) (b := a1 0) ⟨C.1.1, C.1.2.1, C.1.2.2.2.1, C.1.2.2.2.2.1, hts⟩ (hM (D, a1, cc) H.size) ⟨cb_of hts w1 w4 w5 ⟨w6, w7, w8⟩ hR, hts _ w2, hts _ w3⟩ ⟨Pre0_blind, va_recv hK hP (ci := ci) (q := (y.cls, T, NN)) (q0 := 0) (fs := fs.map (tv a1)) w9 (by rw [tw_get (show 0 < 37 by decide), hc]; rfl), fun U hU hW => ⟨rfl, by rw [hU], by rw [hU]; exact hP, va_K.moved hW.alike hK, C.2.2.1, St.keptL hW.alike hU hS C.2.2.2.2.2.2.2.1⟩⟩ rfl (by rw [List.length_map]; exact hn) hl.1 rfl (lv_room hcat) hdg ⟨Nat.le_of_ble_eq_true rfl, Nat.le_of_ble_eq_true rfl⟩) hS (fun q _ h => lxA1 C hS q h) (lxA1 C hS) (fun r1 u t H1 locs1 ht _ hp hB _ hk1 hS1 => ?_)
  subst hp
  rw [ht] at hB
  exact kk ls H1 locs1 hl hB (lxK2 C hQ hk1) hS1
theorem WL.callML {ix n f k nL' ci : Nat} {y : MethodName} {bb : ByteArray} {ret' : Option FieldType} {av rest fs : List Value} {r : Int64} {F' : FF} {L' : Int64} (C : Lx x b N xs D a1 a2 cc) (hdg : decode code pc = .ok (.invokevirtual ix, 3)) (hM : CL x.2.1 y bb nL' ret' (rmx f k) wM (.ref 0 :: av) G L2 r F' L') (hw : VL RL ix ci y bb nL' ret' n) (hn : av.length = n) (hst : st = (av.map (tv a2)).reverse ++ .ref (a2 0) :: rest) (hc : cwd wM (D, a2, cc) 0 (G 0) L2 = .inr (ci, fs)) (hcat : (rest.map fun v => v.category).sum ≤ 8) (hR : f + 1 ≤ 9 ∧ 8 + (nL' + 11) + k ≤ 340) (kk : WL x b D a1 a2 cc i (pc + 3) (.long r :: rest) F F' L1 L') : WL x b D a1 a2 cc i pc st F G L1 L2 := by
  obtain ⟨p, l, e, s, m, below, meth, c⟩ := x
  obtain ⟨w1, w2, w3, w4, w5, w6, w7, w8, T, NN, w9⟩ := hw
  intro ls H locs hl hP hQ hS
  subst hst
  have hts := lw_gw C.1.2.2.2.2.2.1
  have hK : va_K D classes (tys3 (D, a2, cc)) s := C.2.1
  refine va_calll (va_runV (As := av.map (tv a2)) (rest := rest) (Ts := gw) (own := RL) (C := y.cls) (b := a2 0) ⟨C.1.1, C.1.2.1, C.1.2.2.2.1, C.1.2.2.2.2.1, hts⟩ (hM (D, a2, cc) H.size) ⟨cb_of hts w1 w4 w5 ⟨w6, w7, w8⟩ hR, hts _ w2, hts _ w3⟩ ⟨Pre0_blind, va_recv hK hQ (ci := ci) (q := (y.cls, T, NN)) (q0 := 0) (fs := fs.map (tv a2)) w9 (by rw [tw_get (show 0 < 16 by decide), hc]; rfl), fun U hU hW => ⟨rfl, by rw [hU], by rw [hU]; exact hQ, va_K.moved hW.alike hK, C.2.2.2.1, St.keptL hW.alike hU hS C.2.2.2.2.2.2.2.2⟩⟩ rfl (by rw [List.length_map]; exact hn) hl.1 rfl (lv_room hcat) hdg ⟨Nat.le_of_ble_eq_true rfl, Nat.le_of_ble_eq_true rfl⟩) hS (fun q _ h => lxA2 C hS q h) (lxA2 C hS) (fun r1 u t H1 locs1 ht _ hp hB _ hk1 hS1 => ?_)
  subst hp
  rw [ht] at hB
  exact kk ls H1 locs1 hl (lxK1 C hP hk1) hB hS1
theorem WL.ceq {r1 r2 : Int32} {off : Int} (C : Lx x b N xs D a1 a2 cc) (hdg : decode code pc = .ok (.if_icmp .eq off, 3)) (ht : (pc : Int) + off = ((1047 : Nat) : Int)) (he : r1 = r2) (kk : WL x b D a1 a2 cc i 1047 st F G L1 L2) : WL x b D a1 a2 cc i pc (.int r2 :: .int r1 :: st) F G L1 L2 := by
  obtain ⟨p, l, e, s, m, below, meth, c⟩ := x
  intro ls H locs hl hP hQ hS
  exact lv_icmp_eq C.1.1 C.1.2.1 hdg ht (fun _ => kk ls H locs hl hP hQ hS) (fun h => absurd he h)
theorem WL.i2l {v : Int32} (C : Lx x b N xs D a1 a2 cc) (hdg : decode code pc = .ok (.i2l, 1)) (kk : WL x b D a1 a2 cc i (pc + 1) (.long v.toInt64 :: st) F G L1 L2) : WL x b D a1 a2 cc i pc (.int v :: st) F G L1 L2 := by
  obtain ⟨p, l, e, s, m, below, meth, c⟩ := x
  intro ls H locs hl hP hQ hS
  exact lv_i2l C.1.1 C.1.2.1 hdg rfl (kk ls H locs hl hP hQ hS)
theorem WL.bip {n : Int} {v : Int32} (C : Lx x b N xs D a1 a2 cc) (hdg : decode code pc = .ok (.bipush n, 2)) (hv : (Int8.ofInt n).toInt32 = v) (kk : WL x b D a1 a2 cc i (pc + 2) (.int v :: st) F G L1 L2) : WL x b D a1 a2 cc i pc st F G L1 L2 := by
  obtain ⟨p, l, e, s, m, below, meth, c⟩ := x
  intro ls H locs hl hP hQ hS
  exact lv_bipush C.1.1 C.1.2.1 hdg hv (kk ls H locs hl hP hQ hS)
theorem WL.lshl {v : Int64} {k : Int32} (C : Lx x b N xs D a1 a2 cc) (hdg : decode code pc = .ok (.lshl, 1)) (kk : WL x b D a1 a2 cc i (pc + 1) (.long (v <<< (k.toInt64 &&& 63)) :: st) F G L1 L2) : WL x b D a1 a2 cc i pc (.int k :: .long v :: st) F G L1 L2 := by
  obtain ⟨p, l, e, s, m, below, meth, c⟩ := x
  intro ls H locs hl hP hQ hS
  exact lv_lshl C.1.1 C.1.2.1 hdg rfl (kk ls H locs hl hP hQ hS)
theorem WL.ldc2 {ix : Nat} {v : Int64} (C : Lx x b N xs D a1 a2 cc) (hdg : decode code pc = .ok (.ldc2_w ix, 3)) (hw : Cond.constantLong RL ix v ∈ gw) (kk : WL x b D a1 a2 cc i (pc + 3) (.long v :: st) F G L1 L2) : WL x b D a1 a2 cc i pc st F G L1 L2 := by
  obtain ⟨p, l, e, s, m, below, meth, c⟩ := x
  intro ls H locs hl hP hQ hS
  exact lv_ldc2 (own := RL) C.1.1 C.1.2.1 C.1.2.2.2.2.1 (lw_gw C.1.2.2.2.2.2.1 _ hw) hdg (kk ls H locs hl hP hQ hS)
theorem WL.land {v w : Int64} (C : Lx x b N xs D a1 a2 cc) (hdg : decode code pc = .ok (.land, 1)) (kk : WL x b D a1 a2 cc i (pc + 1) (.long (v &&& w) :: st) F G L1 L2) : WL x b D a1 a2 cc i pc (.long w :: .long v :: st) F G L1 L2 := by
  obtain ⟨p, l, e, s, m, below, meth, c⟩ := x
  intro ls H locs hl hP hQ hS
  exact lv_land C.1.1 C.1.2.1 hdg (kk ls H locs hl hP hQ hS)
theorem WL.lor {v w : Int64} (C : Lx x b N xs D a1 a2 cc) (hdg : decode code pc = .ok (.lor, 1)) (kk : WL x b D a1 a2 cc i (pc + 1) (.long (v ||| w) :: st) F G L1 L2) : WL x b D a1 a2 cc i pc (.long w :: .long v :: st) F G L1 L2 := by
  obtain ⟨p, l, e, s, m, below, meth, c⟩ := x
  intro ls H locs hl hP hQ hS
  exact lv_lor C.1.1 C.1.2.1 hdg (kk ls H locs hl hP hQ hS)
theorem WL.lceq {v w : Int64} {off : Int} (C : Lx x b N xs D a1 a2 cc) (h0 : decode code pc = .ok (.lcmp, 1)) (h1 : decode code (pc + 1) = .ok (.ifCond .eq off, 3)) (ht : ((pc + 1 : Nat) : Int) + off = ((1047 : Nat) : Int)) (he : v = w) (kk : WL x b D a1 a2 cc i 1047 st F G L1 L2) : WL x b D a1 a2 cc i pc (.long w :: .long v :: st) F G L1 L2 := by
  obtain ⟨p, l, e, s, m, below, meth, c⟩ := x
  intro ls H locs hl hP hQ hS
  subst he
  refine W.lcmp C.1.1 C.1.2.1 h0 ?_
  refine lv_if_eq C.1.1 C.1.2.1 h1 ht (fun _ => kk ls H locs hl hP hQ hS) (fun h => absurd ?_ h)
  unfold lg_cmp
  simp
end LW
