/-! ===== worlds by cell numbers; the judgement WP ===== -/
/-- the tables' words that hold through a run -/
def gw : List Cond := lw_tbl.filter goodWord
theorem gw_mem {w : Cond} (h : w ∈ lw_tbl) (hg : goodWord w = true) : w ∈ gw := List.mem_filter.mpr ⟨h, hg⟩
theorem gw_good : ∀ w ∈ gw, w ∈ lw_tbl ∧ goodWord w = true := fun _ h => List.mem_filter.mp h
abbrev classes : List vw_C := [(RX0, TX0, 3), (RX1, TX1, 5), (RX2, TX2, 5), (RX3, TX3, 6), (RX4, TX4, 2), (RX5, TX5, 11), (RX6, TX6, 26)]
abbrev MC : Type := Program × Launch × Env × Room × State × MethodId × Array Value × List Frame × Method × Code
abbrev WD : Type := (ClassId → ClassId → ClassId → Nat → (Nat → Int32) → Int64 → va_E) × Nat
abbrev DC : Type := va_G × (Nat → Nat) × ClassId × ClassId × ClassId × Nat × Nat
abbrev FF : Type := Nat → Nat → Int32
def tv (ad : Nat → Nat) : Value → Value
  | .ref k => .ref (ad k)
  | .int x => .int x
  | .long x => .long x
  | .null => .null
  | .float x => .float x
  | .double x => .double x
  | .retAddr x => .retAddr x
theorem tv_cat (ad : Nat → Nat) (v : Value) : (tv ad v).category = v.category := by cases v <;> rfl
def tA (ad : Nat → Nat) : vp_A → vp_A
  | (n, .inr (.inr (.inr (.inr f)))) => (n, .inr (.inr (.inr (.inr (fun j => (f j).map ad)))))
  | (n, .inl f) => (n, .inl f)
  | (n, .inr (.inl f)) => (n, .inr (.inl f))
  | (n, .inr (.inr (.inl f))) => (n, .inr (.inr (.inl f)))
  | (n, .inr (.inr (.inr (.inl f)))) => (n, .inr (.inr (.inr (.inl f))))
def tE (ad : Nat → Nat) : va_E → va_E
  | .inl (cA, a) => .inl (cA, tA ad a)
  | .inr (ci, fs) => .inr (ci, fs.map (tv ad))
def cwd (wd : WD) (d : DC) (i : Nat) (f : Nat → Int32) (L : Int64) : va_E := wd.1 d.2.2.1 d.2.2.2.1 d.2.2.2.2.1 i f L
def tw (wd : WD) (d : DC) (F : FF) (L : Int64) : va_W := (List.range wd.2).map (fun i => (d.2.1 i, tE d.2.1 (cwd wd d i (F i) L)))
def tys3 (d : DC) : List (ClassId × FieldType) := [(d.2.2.1, .int), (d.2.2.2.1, .boolean), (d.2.2.2.2.1, .object "NewRays$Bench")]
def upF (F : FF) (i : Nat) (f : Nat → Int32) : FF := fun j => if j = i then f else F j
def up2 (F : FF) (i j : Nat) (v : Int32) : FF := upF F i (upd (F i) j v)
theorem tw_get {wd : WD} {d : DC} {F : FF} {L : Int64} {i : Nat} (h : i < wd.2) : (tw wd d F L)[i]? = some (d.2.1 i, tE d.2.1 (cwd wd d i (F i) L)) := by
  simp [tw, h]
theorem tw_len {wd : WD} {d : DC} {F : FF} {L : Int64} : (tw wd d F L).length = wd.2 := by simp [tw]
theorem tw_set {wd : WD} {d : DC} {F : FF} {L : Int64} {i : Nat} {f : Nat → Int32} (h : i < wd.2) : (tw wd d F L).set i (d.2.1 i, tE d.2.1 (cwd wd d i f L)) = tw wd d (upF F i f) L := by
  apply List.ext_getElem?
  intro j
  by_cases hj : j = i
  · subst hj
    rw [List.getElem?_set_self (by rw [tw_len]; exact h), tw_get h]
    simp [upF]
  · rw [List.getElem?_set_ne (fun q => hj q.symm)]
    by_cases h2 : j < wd.2
    · rw [tw_get h2, tw_get h2]
      simp [upF, hj]
    · rw [List.getElem?_eq_none (by rw [tw_len]; omega), List.getElem?_eq_none (by rw [tw_len]; omega)]
theorem tw_setL {wd : WD} {d : DC} {F : FF} {L L' : Int64} {i : Nat} (h : i < wd.2) (hL : ∀ j, j ≠ i → ∀ f, cwd wd d j f L = cwd wd d j f L') : (tw wd d F L).set i (d.2.1 i, tE d.2.1 (cwd wd d i (F i) L')) = tw wd d F L' := by
  apply List.ext_getElem?
  intro j
  by_cases hj : j = i
  · subst hj
    rw [List.getElem?_set_self (by rw [tw_len]; exact h), tw_get h]
  · rw [List.getElem?_set_ne (fun q => hj q.symm)]
    by_cases h2 : j < wd.2
    · rw [tw_get h2, tw_get h2, hL j hj]
    · rw [List.getElem?_eq_none (by rw [tw_len]; omega), List.getElem?_eq_none (by rw [tw_len]; omega)]
/-- the cells that a method may change -/
def AA (wd : WD) (d : DC) (sz : Nat) : Nat → Prop := fun q => (∃ i, i < wd.2 ∧ q = d.2.1 i) ∨ sz ≤ q
def A1 (wd : WD) (d : DC) : Nat → Prop := fun q => ∃ i, i < wd.2 ∧ q = d.2.1 i
def apart (wd : WD) (d : DC) : Prop := ∀ i j, i < wd.2 → j < wd.2 → d.2.1 i = d.2.1 j → i = j
theorem tw_D {wd : WD} {d : DC} {F : FF} {L : Int64} {sz : Nat} (h : apart wd d) : va_D (AA wd d sz) (tw wd d F L) := by
  refine ⟨fun i j p q hi hj hpq => ?_, fun k q hk => ?_⟩
  · have h1 : i < wd.2 := by rw [← tw_len (wd := wd) (d := d) (F := F) (L := L)]; exact (List.getElem?_eq_some_iff.mp hi).1
    have h2 : j < wd.2 := by rw [← tw_len (wd := wd) (d := d) (F := F) (L := L)]; exact (List.getElem?_eq_some_iff.mp hj).1
    rw [tw_get h1] at hi
    rw [tw_get h2] at hj
    cases hi; cases hj
    exact h i j h1 h2 hpq
  · have h1 : k < wd.2 := by rw [← tw_len (wd := wd) (d := d) (F := F) (L := L)]; exact (List.getElem?_eq_some_iff.mp hk).1
    rw [tw_get h1] at hk
    cases hk
    exact Or.inl ⟨k, h1, rfl⟩
theorem tw_apart {wd : WD} {d : DC} {F : FF} {L : Int64} {A : Nat → Prop} (h : va_D A (tw wd d F L)) : apart wd d := by
  intro i j hi hj he
  exact h.1 i j _ _ (tw_get hi) (tw_get hj) he
/-- the two static rows -/
def tensV : List Int32 := [1, 10, 100, 1000, 10000, 100000, 1000000, 10000000, 100000000]
def factV : List Int32 := [1, 1, 2, 6, 24, 120]
def St (wd : WD) (d : DC) (U : State) : Prop :=
  va_Z "NewRays" "TENS" "[I" (.ref d.2.2.2.2.2.1) (A1 wd d) U U.heap ∧ va_T .int d.2.2.2.2.2.1 9 (fun j => .int (tensV.getD j 0)) (A1 wd d) U U.heap ∧
  va_Z "NewRays" "FACTORIALS" "[I" (.ref d.2.2.2.2.2.2) (A1 wd d) U U.heap ∧ va_T .int d.2.2.2.2.2.2 6 (fun j => .int (factV.getD j 0)) (A1 wd d) U U.heap
theorem St.moved {wd : WD} {d : DC} {u U : State} (hvm : u.vm.Alike U.vm) (hh : U.heap = u.heap) (h : St wd d u) : St wd d U := by
  obtain ⟨h1, h2, h3, h4⟩ := h
  exact ⟨by rw [hh]; exact h1.moved hvm, by rw [hh]; exact h2.moved hvm, by rw [hh]; exact h3.moved hvm, by rw [hh]; exact h4.moved hvm⟩
theorem St.kept {wd : WD} {d : DC} {u U : State} {H : Heap} {locs : List Loc} (hvm : u.vm.Alike U.vm) (hh : U.heap = H) (hS : va_S (AA wd d u.heap.size) u.heap H locs) (h : St wd d u) : St wd d U := by
  obtain ⟨h1, h2, h3, h4⟩ := h
  have hk : ∀ a : Nat, a < u.heap.size → ¬ A1 wd d a → U.heap[a]? = u.heap[a]? := fun a ha hn => by
    rw [hh]
    refine hS.2.1 a ha ?_
    rintro (q | q)
    · exact hn q
    · omega
  exact ⟨(h1.moved hvm).kept hk, (h2.moved hvm).kept hk, (h3.moved hvm).kept hk, (h4.moved hvm).kept hk⟩
theorem va_Z.out2 {wd : WD} {d : DC} {C n e : String} {v : Value} {U : State} (h : va_Z C n e v (A1 wd d) U U.heap) : va_Z C n e v (AA wd d U.heap.size) U U.heap := by
  obtain ⟨cf, kf, fi, f, a, cell, h1, h2, h3, h4, h5, h6, h7, h8⟩ := h
  refine ⟨cf, kf, fi, f, a, cell, h1, h2, h3, h4, h5, h6, h7, ?_⟩
  have hl := (Array.getElem?_eq_some_iff.mp h5).1
  rintro (q | q)
  · exact h8 q
  · omega
theorem va_T.out2 {wd : WD} {d : DC} {ty : FieldType} {t N : Nat} {f : Nat → Value} {U : State} (h : va_T ty t N f (A1 wd d) U U.heap) : va_T ty t N f (AA wd d U.heap.size) U U.heap := by
  obtain ⟨cell, h1, h2, h3, h4, h5, h6, h7⟩ := h
  refine ⟨cell, h1, h2, h3, h4, h5, h6, ?_⟩
  have hl := (Array.getElem?_eq_some_iff.mp h1).1
  rintro (q | q)
  · exact h7 q
  · omega
/-! locals, by place -/
def lvA (ad : Nat → Nat) : Nat → List (Option Value) → List (Nat × Value)
  | _, [] => []
  | i, none :: t => lvA ad (i + 1) t
  | i, some v :: t => (i, tv ad v) :: lvA ad (i + 1) t
theorem lvA_mem {ad : Nat → Nat} : ∀ {lv : List (Option Value)} {k i : Nat} {v : Value}, lv[i]? = some (some v) → (k + i, tv ad v) ∈ lvA ad k lv
  | [], k, i, v, h => by simp at h
  | none :: t, k, 0, v, h => by simp at h
  | some w :: t, k, 0, v, h => by simp at h; subst h; simp [lvA]
  | none :: t, k, i + 1, v, h => by
    have := lvA_mem (ad := ad) (lv := t) (k := k + 1) (i := i) (v := v) (by simpa using h)
    rw [show k + (i + 1) = k + 1 + i by omega]
    simpa [lvA] using this
  | some w :: t, k, i + 1, v, h => by
    have := lvA_mem (ad := ad) (lv := t) (k := k + 1) (i := i) (v := v) (by simpa using h)
    rw [show k + (i + 1) = k + 1 + i by omega]
    exact List.mem_cons_of_mem _ this
theorem lvA_of {ad : Nat → Nat} : ∀ {lv : List (Option Value)} {k : Nat} {q : Nat × Value}, q ∈ lvA ad k lv → ∃ i v, lv[i]? = some (some v) ∧ q = (k + i, tv ad v)
  | [], k, q, h => by simp [lvA] at h
  | none :: t, k, q, h => by
    obtain ⟨i, v, h1, h2⟩ := lvA_of (lv := t) (k := k + 1) (q := q) h
    exact ⟨i + 1, v, by simpa using h1, by rw [h2]; congr 1; omega⟩
  | some w :: t, k, q, h => by
    rcases List.mem_cons.mp h with h | h
    · exact ⟨0, w, by simp, h⟩
    · obtain ⟨i, v, h1, h2⟩ := lvA_of (lv := t) (k := k + 1) (q := q) h
      exact ⟨i + 1, v, by simpa using h1, by rw [h2]; congr 1; omega⟩
def LH (ls : Array Slot) (nL : Nat) (ad : Nat → Nat) (lv : List (Option Value)) : Prop := lv_has ls nL (lvA ad 0 lv)
theorem LH.at {ls : Array Slot} {nL : Nat} {ad : Nat → Nat} {lv : List (Option Value)} (h : LH ls nL ad lv) {i : Nat} {v : Value} (hi : lv[i]? = some (some v)) : ls[i]? = some (.val (tv ad v)) := by
  have := h.2.2 _ (lvA_mem (k := 0) hi)
  simpa using this
def okc : Option Value → Bool
  | some v => v.category == 1
  | none => true
def okp (lv : List (Option Value)) : Nat → Bool
  | 0 => true
  | i + 1 => okc (lv.getD i none)
/-- behind a store of one slot -/
theorem LH.st {ls : Array Slot} {nL : Nat} {ad : Nat → Nat} {lv : List (Option Value)} {i : Nat} {v : Value} (hp : okp lv i = true)
    (h' : lv_has ls nL ((i, tv ad v) :: (lvA ad 0 lv).filter (fun q => !(q.1 == i) && !(q.1 + 1 == i && q.2.category == 2)))) : LH ls nL ad (lv.set i (some v)) := by
  refine ⟨h'.1, h'.2.1, fun q hq => h'.2.2 q ?_⟩
  obtain ⟨j, w, h1, h2⟩ := lvA_of hq
  rw [Nat.zero_add] at h2
  by_cases hj : j = i
  · subst hj
    by_cases hl : j < lv.length
    · rw [List.getElem?_set_self hl] at h1
      cases h1
      rw [h2]
      exact List.mem_cons_self
    · rw [List.set_eq_of_length_le (by omega), List.getElem?_eq_none (by omega)] at h1
      cases h1
  · rw [List.getElem?_set_ne (fun e => hj e.symm)] at h1
    refine List.mem_cons_of_mem _ (List.mem_filter.mpr ⟨by rw [h2]; simpa using lvA_mem (ad := ad) (k := 0) h1, ?_⟩)
    rw [h2]
    dsimp only
    have e1 : (j == i) = false := by simpa using hj
    rw [e1, tv_cat]
    by_cases hj1 : j + 1 = i
    · subst hj1
      have : lv.getD j none = some w := by simp [List.getD, h1]
      have h3 : okc (some w) = true := by rw [← this]; exact hp
      have h4 : w.category = 1 := by simpa [okc] using h3
      simp [h4]
    · have : (j + 1 == i) = false := by simpa using hj1
      simp [this]
def okp2 (lv : List (Option Value)) (i : Nat) : Bool := match lv.getD (i + 1) none with
  | none => okp lv i
  | some _ => false
/-- behind a store of two slots -/
theorem LH.st2 {ls : Array Slot} {nL : Nat} {ad : Nat → Nat} {lv : List (Option Value)} {i : Nat} {v : Value} (hp : okp2 lv i = true)
    (h' : lv_has ls nL ((i, tv ad v) :: (lvA ad 0 lv).filter (fun q => !(q.1 == i) && (!(q.1 == i + 1) && !(q.1 + 1 == i && q.2.category == 2))))) : LH ls nL ad (lv.set i (some v)) := by
  have hp1 : okp lv i = true := by
    unfold okp2 at hp
    split at hp
    · exact hp
    · cases hp
  have hn : lv.getD (i + 1) none = none := by
    unfold okp2 at hp
    split at hp
    · assumption
    · cases hp
  refine ⟨h'.1, h'.2.1, fun q hq => h'.2.2 q ?_⟩
  obtain ⟨j, w, h1, h2⟩ := lvA_of hq
  rw [Nat.zero_add] at h2
  by_cases hj : j = i
  · subst hj
    by_cases hl : j < lv.length
    · rw [List.getElem?_set_self hl] at h1
      cases h1
      rw [h2]
      exact List.mem_cons_self
    · rw [List.set_eq_of_length_le (by omega), List.getElem?_eq_none (by omega)] at h1
      cases h1
  · rw [List.getElem?_set_ne (fun e => hj e.symm)] at h1
    refine List.mem_cons_of_mem _ (List.mem_filter.mpr ⟨by rw [h2]; simpa using lvA_mem (ad := ad) (k := 0) h1, ?_⟩)
    rw [h2]
    dsimp only
    have e1 : (j == i) = false := by simpa using hj
    have e2 : (j == i + 1) = false := by
      have : j ≠ i + 1 := by
        intro e
        subst e
        simp [List.getD, h1] at hn
      simpa using this
    rw [e1, e2, tv_cat]
    by_cases hj1 : j + 1 = i
    · subst hj1
      have : lv.getD j none = some w := by simp [List.getD, h1]
      have h3 : okc (some w) = true := by rw [← this]; exact hp1
      have h4 : w.category = 1 := by simpa [okc] using h3
      simp [h4]
    · have : (j + 1 == i) = false := by simpa using hj1
      simp [this]
/-- what holds of the machine through a walk -/
def Cx (x : MC) (cc : ByteArray) (nL : Nat) (own : String) (ret : Option FieldType) (rm : Room) (wd : WD) (d : DC) : Prop := match x with
  | (p, _, _, R, s, m, args, _, meth, c) => p.tables.exec = Jvm.exec ∧ c.code = cc ∧ c.maxLocals = nL ∧ s.vm.findClass own = some m.cls ∧ (∀ w ∈ gw, w.before args s = true) ∧ va_K d.1 classes (tys3 d) s ∧ apart wd d ∧ St wd d s ∧ meth.sig.returnType = ret ∧ meth.locks = false ∧ R = rm
def WP (x : MC) (nL : Nat) (wd : WD) (d : DC) (Q : State → Prop) (pc : Nat) (lv : List (Option Value)) (st : List Value) (F : FF) (L : Int64) : Prop := match x with
  | (p, l, e, R, s, m, args, below, meth, c) => ∀ (ls : Array Slot) (H : Heap) (locs : List Loc), LH ls nL d.2.1 lv → va_P d.1 classes (tw wd d F L) H → va_S (AA wd d s.heap.size) s.heap H locs → W p l e R s m args below meth c H locs 0 0 Q (F0 m pc ls (st.map (tv d.2.1)))
