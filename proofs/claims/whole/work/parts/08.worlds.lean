/-! ===== the two worlds ===== -/
def cwN (cI cZ cB : ClassId) (i : Nat) (f : Nat → Int32) (L : Int64) : va_E := match i with
  | 0 => .inr (5, [.ref 1, .ref 3, .ref 19, .ref 8, .ref 10, .ref 15, .ref 16, .long L, .ref 36, .ref 17, .ref 18])
  | 1 => .inr (4, [.ref 2, .int (f 1)])
  | 2 => .inl (cI, 36, .inl f)
  | 3 => .inr (3, [.ref 4, .ref 5, .ref 6, .ref 7, .int (f 4), .int (f 5)])
  | 4 => .inl (cI, 5, .inl f)
  | 5 => .inl (cI, 5, .inl f)
  | 6 => .inl (cI, 5, .inl f)
  | 7 => .inl (cI, 4, .inl f)
  | 8 => .inr (0, [.ref 9, .int (f 1), .int (f 2)])
  | 9 => .inl (cB, 14, .inr (.inr (.inr (.inr (fun j => some (j + 20))))))
  | 10 => .inr (2, [.ref 11, .ref 12, .ref 13, .ref 14, .int (f 4)])
  | 11 => .inl (cI, 6, .inl f)
  | 12 => .inl (cI, 6, .inl f)
  | 13 => .inl (cZ, 6, .inl f)
  | 14 => .inl (cZ, 6, .inl f)
  | 15 => .inl (cB, 2, .inr (.inr (.inr (.inr (fun j => some (j + 34))))))
  | 16 => .inl (cZ, 2, .inl f)
  | 17 => .inl (cI, 4, .inl f)
  | 18 => .inl (cI, 6, .inl f)
  | _ => .inr (1, [.int (f 0), .int (f 1), .int (f 2), .int (f 3), .int (f 4)])
def wN : WD := (cwN, 37)
def cwM (cI cZ _cB : ClassId) (i : Nat) (f : Nat → Int32) (L : Int64) : va_E := match i with
  | 0 => .inr (6, [.int (f 0), .int (f 1), .ref 1, .ref 2, .ref 3, .ref 4, .ref 5, .ref 6, .ref 7, .int (f 9), .int (f 10), .ref 8, .int (f 12), .int (f 13), .int (f 14), .int (f 15), .int (f 16), .ref 9, .int (f 18), .ref 10, .ref 11, .ref 12, .ref 13, .long L, .ref 14, .ref 15])
  | 1 => .inl (cI, 5, .inl f)
  | 2 => .inl (cI, 5, .inl f)
  | 3 => .inl (cI, 5, .inl f)
  | 4 => .inl (cI, 4, .inl f)
  | 5 => .inl (cI, 18, .inl f)
  | 6 => .inl (cI, 15, .inl f)
  | 7 => .inl (cI, 4, .inl f)
  | 8 => .inl (cI, 36, .inl f)
  | 9 => .inl (cI, 126, .inl f)
  | 10 => .inl (cI, 6, .inl f)
  | 11 => .inl (cI, 6, .inl f)
  | 12 => .inl (cI, 6, .inl f)
  | 13 => .inl (cI, 6, .inl f)
  | 14 => .inl (cZ, 2, .inl f)
  | _ => .inl (cI, 18, .inl f)
def wM : WD := (cwM, 16)
theorem cw_b {d : DC} {i : Nat} (h : 19 ≤ i) (f : Nat → Int32) (L : Int64) : cwd wN d i f L = .inr (1, [.int (f 0), .int (f 1), .int (f 2), .int (f 3), .int (f 4)]) := by
  obtain ⟨j, rfl⟩ : ∃ j, i = j + 19 := ⟨i - 19, by omega⟩
  rfl
theorem cwN_L {d : DC} {L L' : Int64} : ∀ j, j ≠ 0 → ∀ f, cwd wN d j f L = cwd wN d j f L' := by
  intro j hj f
  match j, hj with
  | 1, _ | 2, _ | 3, _ | 4, _ | 5, _ | 6, _ | 7, _ | 8, _ | 9, _ | 10, _ | 11, _ | 12, _ | 13, _ | 14, _ | 15, _ | 16, _ | 17, _ | 18, _ => rfl
  | j + 19, _ => rfl
theorem cwM_L {d : DC} {L L' : Int64} : ∀ j, j ≠ 0 → ∀ f, cwd wM d j f L = cwd wM d j f L' := by
  intro j hj f
  match j, hj with
  | 1, _ | 2, _ | 3, _ | 4, _ | 5, _ | 6, _ | 7, _ | 8, _ | 9, _ | 10, _ | 11, _ | 12, _ | 13, _ | 14, _ => rfl
  | j + 15, _ => rfl
theorem loop_c {P : Nat → Prop} {n : Nat} (h : ∀ i, i ≤ n → (i < n → P (i + 1)) → P i) (i : Nat) (hi : i ≤ n) : P i := by
  obtain ⟨m, hm⟩ : ∃ m, i + m = n := ⟨n - i, by omega⟩
  induction m generalizing i with
  | zero => exact h i hi (fun q => by omega)
  | succ m ih => exact h i hi (fun q => ih (i + 1) (by omega) (by omega))
theorem up2_s (F : FF) (i j : Nat) (v : Int32) : up2 F i j v i j = v := by simp [up2, upF, upd]
theorem up2_n (F : FF) {i j a b : Nat} (v : Int32) (h : a ≠ i ∨ b ≠ j) : up2 F i j v a b = F a b := by
  unfold up2 upF upd
  by_cases h1 : a = i
  · subst h1
    have : b ≠ j := by rcases h with h | h <;> simp_all
    simp [this]
  · simp [h1]
theorem up2_at (F : FF) (i j a b : Nat) (v : Int32) : up2 F i j v a b = if a = i ∧ b = j then v else F a b := by
  by_cases h : a = i ∧ b = j
  · rw [if_pos h, h.1, h.2, up2_s]
  · rw [if_neg h, up2_n]
    by_cases h1 : a = i
    · exact Or.inr (fun e => h ⟨h1, e⟩)
    · exact Or.inl h1
