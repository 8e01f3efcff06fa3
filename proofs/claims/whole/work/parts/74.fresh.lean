/-! ===== the two fresh worlds ===== -/
def WN0 (cI cZ cB : ClassId) (h0 : Nat) (ad : Nat → Nat) : va_W := [(h0, .inr (5, [.ref (ad 1), .ref (ad 3), .ref (ad 8), .ref (ad 9), .ref (ad 25), .ref (ad 30), .ref (ad 33), .long 0, .ref (ad 34), .ref (ad 35), .ref (ad 36)])), ((ad 1), .inr (4, [.ref (ad 2), .int 0])), ((ad 2), .inl (cI, 36, .inl (fun _ => 0))), ((ad 3), .inr (3, [.ref (ad 4), .ref (ad 5), .ref (ad 6), .ref (ad 7), .int 0, .int 0])), ((ad 4), .inl (cI, 5, .inl (fun _ => 0))), ((ad 5), .inl (cI, 5, .inl (fun _ => 0))), ((ad 6), .inl (cI, 5, .inl (fun _ => 0))), ((ad 7), .inl (cI, 4, .inl (fun _ => 0))), ((ad 8), .inr (1, [.int 0, .int 0, .int 0, .int 1, .int 1])), ((ad 9), .inr (0, [.ref (ad 10), .int 0, .int 0])), ((ad 10), .inl (cB, 14, .inr (.inr (.inr (.inr (va_up (va_up (va_up (va_up (va_up (va_up (va_up (va_up (va_up (va_up (va_up (va_up (va_up (va_up (fun _ => none) 0 (some (ad 11))) 1 (some (ad 12))) 2 (some (ad 13))) 3 (some (ad 14))) 4 (some (ad 15))) 5 (some (ad 16))) 6 (some (ad 17))) 7 (some (ad 18))) 8 (some (ad 19))) 9 (some (ad 20))) 10 (some (ad 21))) 11 (some (ad 22))) 12 (some (ad 23))) 13 (some (ad 24)))))))), ((ad 11), .inr (1, [.int 0, .int 0, .int 0, .int 1, .int 1])), ((ad 12), .inr (1, [.int 0, .int 0, .int 0, .int 1, .int 1])), ((ad 13), .inr (1, [.int 0, .int 0, .int 0, .int 1, .int 1])), ((ad 14), .inr (1, [.int 0, .int 0, .int 0, .int 1, .int 1])), ((ad 15), .inr (1, [.int 0, .int 0, .int 0, .int 1, .int 1])), ((ad 16), .inr (1, [.int 0, .int 0, .int 0, .int 1, .int 1])), ((ad 17), .inr (1, [.int 0, .int 0, .int 0, .int 1, .int 1])), ((ad 18), .inr (1, [.int 0, .int 0, .int 0, .int 1, .int 1])), ((ad 19), .inr (1, [.int 0, .int 0, .int 0, .int 1, .int 1])), ((ad 20), .inr (1, [.int 0, .int 0, .int 0, .int 1, .int 1])), ((ad 21), .inr (1, [.int 0, .int 0, .int 0, .int 1, .int 1])), ((ad 22), .inr (1, [.int 0, .int 0, .int 0, .int 1, .int 1])), ((ad 23), .inr (1, [.int 0, .int 0, .int 0, .int 1, .int 1])), ((ad 24), .inr (1, [.int 0, .int 0, .int 0, .int 1, .int 1])), ((ad 25), .inr (2, [.ref (ad 26), .ref (ad 27), .ref (ad 28), .ref (ad 29), .int 0])), ((ad 26), .inl (cI, 6, .inl (fun _ => 0))), ((ad 27), .inl (cI, 6, .inl (fun _ => 0))), ((ad 28), .inl (cZ, 6, .inl (fun _ => 0))), ((ad 29), .inl (cZ, 6, .inl (fun _ => 0))), ((ad 30), .inl (cB, 2, .inr (.inr (.inr (.inr (va_up (va_up (fun _ => none) 0 (some (ad 31))) 1 (some (ad 32)))))))), ((ad 31), .inr (1, [.int 0, .int 0, .int 0, .int 1, .int 1])), ((ad 32), .inr (1, [.int 0, .int 0, .int 0, .int 1, .int 1])), ((ad 33), .inl (cZ, 2, .inl (fun _ => 0))), ((ad 34), .inr (1, [.int 0, .int 0, .int 0, .int 1, .int 1])), ((ad 35), .inl (cI, 4, .inl (fun _ => 0))), ((ad 36), .inl (cI, 6, .inl (fun _ => 0)))]
def WM0 (cI cZ _cB : ClassId) (h0 : Nat) (ad : Nat → Nat) : va_W := [(h0, .inr (6, [.int 0, .int 0, .ref (ad 1), .ref (ad 2), .ref (ad 3), .ref (ad 4), .ref (ad 5), .ref (ad 6), .ref (ad 7), .int 0, .int 0, .ref (ad 8), .int 0, .int 0, .int 0, .int 0, .int 0, .ref (ad 9), .int 0, .ref (ad 10), .ref (ad 11), .ref (ad 12), .ref (ad 13), .long 0, .ref (ad 14), .ref (ad 15)])), ((ad 1), .inl (cI, 5, .inl (fun _ => 0))), ((ad 2), .inl (cI, 5, .inl (fun _ => 0))), ((ad 3), .inl (cI, 5, .inl (fun _ => 0))), ((ad 4), .inl (cI, 4, .inl (fun _ => 0))), ((ad 5), .inl (cI, 18, .inl (upd (upd (fun _ => 0) 7 1) 8 1))), ((ad 6), .inl (cI, 15, .inl (fun _ => 0))), ((ad 7), .inl (cI, 4, .inl (fun _ => 0))), ((ad 8), .inl (cI, 36, .inl (fun _ => 0))), ((ad 9), .inl (cI, 126, .inl (fun _ => 0))), ((ad 10), .inl (cI, 6, .inl (fun _ => 0))), ((ad 11), .inl (cI, 6, .inl (fun _ => 0))), ((ad 12), .inl (cI, 6, .inl (fun _ => 0))), ((ad 13), .inl (cI, 6, .inl (fun _ => 0))), ((ad 14), .inl (cZ, 2, .inl (fun _ => 0))), ((ad 15), .inl (cI, 18, .inl (fun _ => 0)))]
def piL : List Nat := [0, 1, 2, 3, 4, 5, 6, 7, 9, 10, 25, 26, 27, 28, 29, 30, 33, 35, 36, 8, 11, 12, 13, 14, 15, 16, 17, 18, 19, 20, 21, 22, 23, 24, 31, 32, 34]
def adr (h0 : Nat) (ad : Nat → Nat) (k : Nat) : Nat := if k = 0 then h0 else ad k
def aN (h0 : Nat) (ad : Nat → Nat) (k : Nat) : Nat := adr h0 ad (piL.getD k 0)
def F00 : FF := fun b k => if b < 19 then 0 else if k < 3 then 0 else 1
def G00 : FF := fun b => if b = 5 then upd (upd (fun _ => 0) 7 1) 8 1 else fun _ => 0
theorem pi_lt : ∀ k, k < 37 → piL.getD k 0 < 37 := by decide
theorem pi_inj : ∀ i, i < 37 → ∀ j, j < 37 → piL.getD i 0 = piL.getD j 0 → i = j := by decide +kernel
theorem arrV_congr {cA : ClassId} {n : Nat} {f g : Nat → Value} (h : ∀ j, j < n → f j = g j) : arrV cA n f = arrV cA n g := by
  unfold arrV
  have : (fun j : Fin n => f j.val) = (fun j : Fin n => g j.val) := funext (fun j => h j.val j.isLt)
  rw [this]
section FRESH
variable {D : va_G} {cI cZ cB : ClassId} {h0 t1 t2 : Nat} {ad : Nat → Nat} {H : Heap}
theorem WN0_at : ∀ n, n < 37 → ∃ e, (WN0 cI cZ cB h0 ad)[n]? = some (adr h0 ad n, e)
  | 0, _ => ⟨_, rfl⟩
  | 1, _ => ⟨_, rfl⟩
  | 2, _ => ⟨_, rfl⟩
  | 3, _ => ⟨_, rfl⟩
  | 4, _ => ⟨_, rfl⟩
  | 5, _ => ⟨_, rfl⟩
  | 6, _ => ⟨_, rfl⟩
  | 7, _ => ⟨_, rfl⟩
  | 8, _ => ⟨_, rfl⟩
  | 9, _ => ⟨_, rfl⟩
  | 10, _ => ⟨_, rfl⟩
  | 11, _ => ⟨_, rfl⟩
  | 12, _ => ⟨_, rfl⟩
  | 13, _ => ⟨_, rfl⟩
  | 14, _ => ⟨_, rfl⟩
  | 15, _ => ⟨_, rfl⟩
  | 16, _ => ⟨_, rfl⟩
  | 17, _ => ⟨_, rfl⟩
  | 18, _ => ⟨_, rfl⟩
  | 19, _ => ⟨_, rfl⟩
  | 20, _ => ⟨_, rfl⟩
  | 21, _ => ⟨_, rfl⟩
  | 22, _ => ⟨_, rfl⟩
  | 23, _ => ⟨_, rfl⟩
  | 24, _ => ⟨_, rfl⟩
  | 25, _ => ⟨_, rfl⟩
  | 26, _ => ⟨_, rfl⟩
  | 27, _ => ⟨_, rfl⟩
  | 28, _ => ⟨_, rfl⟩
  | 29, _ => ⟨_, rfl⟩
  | 30, _ => ⟨_, rfl⟩
  | 31, _ => ⟨_, rfl⟩
  | 32, _ => ⟨_, rfl⟩
  | 33, _ => ⟨_, rfl⟩
  | 34, _ => ⟨_, rfl⟩
  | 35, _ => ⟨_, rfl⟩
  | 36, _ => ⟨_, rfl⟩
  | n + 37, h => absurd h (by omega)
theorem WM0_at : ∀ n, n < 16 → ∃ e, (WM0 cI cZ cB h0 ad)[n]? = some (adr h0 ad n, e)
  | 0, _ => ⟨_, rfl⟩
  | 1, _ => ⟨_, rfl⟩
  | 2, _ => ⟨_, rfl⟩
  | 3, _ => ⟨_, rfl⟩
  | 4, _ => ⟨_, rfl⟩
  | 5, _ => ⟨_, rfl⟩
  | 6, _ => ⟨_, rfl⟩
  | 7, _ => ⟨_, rfl⟩
  | 8, _ => ⟨_, rfl⟩
  | 9, _ => ⟨_, rfl⟩
  | 10, _ => ⟨_, rfl⟩
  | 11, _ => ⟨_, rfl⟩
  | 12, _ => ⟨_, rfl⟩
  | 13, _ => ⟨_, rfl⟩
  | 14, _ => ⟨_, rfl⟩
  | 15, _ => ⟨_, rfl⟩
  | n + 16, h => absurd h (by omega)
theorem va_at_q {D : va_G} {a : Nat} {cA : ClassId} {n : Nat} {f g : Nat → Option Nat} {H : Heap} (h : va_at D classes (a, .inl (cA, n, .inr (.inr (.inr (.inr f))))) H) (hf : ∀ j, j < n → g j = f j) : va_at D classes (a, .inl (cA, n, .inr (.inr (.inr (.inr g))))) H := by
  have e : vp_cell cA (n, .inr (.inr (.inr (.inr g)))) = vp_cell cA (n, .inr (.inr (.inr (.inr f)))) := by
    rw [vp_cell_q, vp_cell_q]
    exact arrV_congr (fun j hj => by rw [hf j hj])
  show H[a]? = some (vp_cell cA (n, .inr (.inr (.inr (.inr g)))))
  rw [e]
  exact h
theorem upN : ∀ j, j < 14 → (some (j + 20)).map (aN h0 ad) = (va_up (va_up (va_up (va_up (va_up (va_up (va_up (va_up (va_up (va_up (va_up (va_up (va_up (va_up (fun _ => none) 0 (some (ad 11))) 1 (some (ad 12))) 2 (some (ad 13))) 3 (some (ad 14))) 4 (some (ad 15))) 5 (some (ad 16))) 6 (some (ad 17))) 7 (some (ad 18))) 8 (some (ad 19))) 9 (some (ad 20))) 10 (some (ad 21))) 11 (some (ad 22))) 12 (some (ad 23))) 13 (some (ad 24))) j
  | 0, _ => rfl
  | 1, _ => rfl
  | 2, _ => rfl
  | 3, _ => rfl
  | 4, _ => rfl
  | 5, _ => rfl
  | 6, _ => rfl
  | 7, _ => rfl
  | 8, _ => rfl
  | 9, _ => rfl
  | 10, _ => rfl
  | 11, _ => rfl
  | 12, _ => rfl
  | 13, _ => rfl
  | n + 14, h => absurd h (by omega)
theorem upN2 : ∀ j, j < 2 → (some (j + 34)).map (aN h0 ad) = (va_up (va_up (fun _ => none) 0 (some (ad 31))) 1 (some (ad 32))) j
  | 0, _ => rfl
  | 1, _ => rfl
  | n + 2, h => absurd h (by omega)
set_option maxRecDepth 100000 in
theorem fresh_N (hP : va_P D classes (WN0 cI cZ cB h0 ad) H) : va_P D classes (tw wN (D, aN h0 ad, (cI, cZ, cB, t1, t2)) F00 0) H := by
  intro k q hq
  have hk : k < 37 := by
    have := (List.getElem?_eq_some_iff.mp hq).1
    rw [tw_len] at this
    exact this
  rw [tw_get hk] at hq
  cases hq
  match k, hk with
  | 0, _ => exact hP 0 _ rfl
  | 1, _ => exact hP 1 _ rfl
  | 2, _ => exact hP 2 _ rfl
  | 3, _ => exact hP 3 _ rfl
  | 4, _ => exact hP 4 _ rfl
  | 5, _ => exact hP 5 _ rfl
  | 6, _ => exact hP 6 _ rfl
  | 7, _ => exact hP 7 _ rfl
  | 8, _ => exact hP 9 _ rfl
  | 9, _ => exact va_at_q (hP 10 _ rfl) (fun j hj => upN j hj)
  | 10, _ => exact hP 25 _ rfl
  | 11, _ => exact hP 26 _ rfl
  | 12, _ => exact hP 27 _ rfl
  | 13, _ => exact hP 28 _ rfl
  | 14, _ => exact hP 29 _ rfl
  | 15, _ => exact va_at_q (hP 30 _ rfl) (fun j hj => upN2 j hj)
  | 16, _ => exact hP 33 _ rfl
  | 17, _ => exact hP 35 _ rfl
  | 18, _ => exact hP 36 _ rfl
  | 19, _ => exact hP 8 _ rfl
  | 20, _ => exact hP 11 _ rfl
  | 21, _ => exact hP 12 _ rfl
  | 22, _ => exact hP 13 _ rfl
  | 23, _ => exact hP 14 _ rfl
  | 24, _ => exact hP 15 _ rfl
  | 25, _ => exact hP 16 _ rfl
  | 26, _ => exact hP 17 _ rfl
  | 27, _ => exact hP 18 _ rfl
  | 28, _ => exact hP 19 _ rfl
  | 29, _ => exact hP 20 _ rfl
  | 30, _ => exact hP 21 _ rfl
  | 31, _ => exact hP 22 _ rfl
  | 32, _ => exact hP 23 _ rfl
  | 33, _ => exact hP 24 _ rfl
  | 34, _ => exact hP 31 _ rfl
  | 35, _ => exact hP 32 _ rfl
  | 36, _ => exact hP 34 _ rfl
  | k + 37, h => exact absurd h (by omega)
set_option maxRecDepth 100000 in
theorem fresh_M (hP : va_P D classes (WM0 cI cZ cB h0 ad) H) : va_P D classes (tw wM (D, adr h0 ad, (cI, cZ, cB, t1, t2)) G00 0) H := by
  intro k q hq
  have hk : k < 16 := by
    have := (List.getElem?_eq_some_iff.mp hq).1
    rw [tw_len] at this
    exact this
  rw [tw_get hk] at hq
  cases hq
  match k, hk with
  | 0, _ => exact hP 0 _ rfl
  | 1, _ => exact hP 1 _ rfl
  | 2, _ => exact hP 2 _ rfl
  | 3, _ => exact hP 3 _ rfl
  | 4, _ => exact hP 4 _ rfl
  | 5, _ => exact hP 5 _ rfl
  | 6, _ => exact hP 6 _ rfl
  | 7, _ => exact hP 7 _ rfl
  | 8, _ => exact hP 8 _ rfl
  | 9, _ => exact hP 9 _ rfl
  | 10, _ => exact hP 10 _ rfl
  | 11, _ => exact hP 11 _ rfl
  | 12, _ => exact hP 12 _ rfl
  | 13, _ => exact hP 13 _ rfl
  | 14, _ => exact hP 14 _ rfl
  | 15, _ => exact hP 15 _ rfl
  | k + 16, h => exact absurd h (by omega)
theorem fresh_S : SS F00 G00 := by
  refine ⟨0, 0, 0, 0, 0, 0, Sim.begin (fun b hb k => ?_) (fun b h1 h2 k hk => ?_) (fun b k => ?_)⟩
  · unfold F00
    rw [if_pos hb]
  · unfold F00
    rw [if_neg (by omega)]
  · unfold G00
    by_cases hb : b = 5
    · subst hb
      rw [if_pos rfl]
      unfold upd
      by_cases h8 : k = 8
      · rw [if_pos h8, if_pos ⟨rfl, Or.inr h8⟩]
      · rw [if_neg h8]
        by_cases h7 : k = 7
        · rw [if_pos h7, if_pos ⟨rfl, Or.inl h7⟩]
        · rw [if_neg h7, if_neg (by omega)]
    · rw [if_neg hb, if_neg (fun z => hb z.1)]
end FRESH
