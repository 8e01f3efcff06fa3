/-! ===== NewRaysModel: share, rests, flicker ===== -/
theorem on5 : ∀ q, q < 32 → onI (nI q) 20 = nI (pcN q) := by decide +kernel
theorem pc_and_le : ∀ a, a < 32 → ∀ q, q < 32 → pcN (a &&& q) ≤ pcN q := by decide +kernel
theorem hasT5 : ∀ q, q < 32 → ∀ i, i < 5 → (hasT (nI q) (nI i) = false ↔ q &&& 2 ^ i = 0) := by decide +kernel
theorem bit5 : ∀ q, q < 32 → ∀ i, i < 5 → (nI q >>> (nI i &&& 31)) &&& 1 = nI (q / 2 ^ i % 2) := by decide +kernel
theorem neg0 (a : Int32) : -a = 0 - a := by rw [Int32.sub_eq_add_neg]; simp
def rbS (G : FF) (nr q s : Nat) : Bool := decide (pcN q < 2 * (if 0 < G 4 s then pcN (yesM G nr s &&& q) else pcN q - pcN (yesM G nr s &&& q)))
def rbM (G : FF) (nr ns q : Nat) : Nat := cntN (rbS G nr q) ns
def shMV (G : FF) (nr ns i : Nat) : Int32 := shG i (fun q => nI (ordN nr q)) (fun q => nI (rbM G nr ns q)) (2 ^ nr)
def shMR (G : FF) (nr ns a : Nat) (r : Int32) (up : Bool) : Int32 := if hasB r nr = true then frR (shMV G nr ns (ix r)) a (fct nr) up else -1
def rgM (G : FF) (j i : Nat) : Bool := sayM G 0 j i == decide (0 < G 4 j)
theorem same_rg {a b c : Bool} : (a == c) = (b == c) ↔ a = b := by cases a <;> cases b <;> cases c <;> decide
def rtMR (G : FF) (nr ns : Nat) (r o s w : Int32) : Int32 := if (chk r nr s ns && hasB o nr) = true then (if ¬ r = o ∧ 0 ≤ w ∧ w ≤ 1 then (if w = 0 then nI (rtC (rgM G (ix s) (ix r)) (rgM G (ix s) (ix o))) else rtF (rgM G (ix s) (ix r)) (rgM G (ix s) (ix o))) else -2) else -1
def fyM (G : FF) (j q r : Nat) : Bool := saysB (G 3 r) (G 2 r) (brM G 0 j r + nI (q / 2 ^ r % 2))
def fwt (x nr q : Nat) : Nat := x ^ pcN q * (10 - x) ^ (nr - pcN q)
def suA (x nr : Nat) : Nat → Nat
  | 0 => 0
  | q + 1 => suA x nr q + fwt x nr q
def suS (G : FF) (j x m nr : Nat) : Nat → Nat
  | 0 => 0
  | q + 1 => suS G j x m nr q + (if m ≤ cntN (fyM G j q) nr then fwt x nr q else 0)
theorem suA_eq : ∀ x, x ≤ 10 → ∀ nr, nr ≤ 5 → suA x nr (2 ^ nr) = 10 ^ nr := by decide +kernel
theorem suA_le {x nr : Nat} (hx : x ≤ 10) (hn : nr ≤ 5) : ∀ k q, q + k = 2 ^ nr → suA x nr q ≤ 10 ^ nr
  | 0, q, h => by rw [← suA_eq x hx nr hn, ← h]; exact Nat.le_refl _
  | k + 1, q, h => by
    have := suA_le hx hn k (q + 1) (by omega)
    rw [suA] at this
    omega
theorem suS_le (G : FF) (j x m nr : Nat) : ∀ q, suS G j x m nr q ≤ suA x nr q
  | 0 => Nat.le_refl _
  | q + 1 => by
    have := suS_le G j x m nr q
    rw [suS, suA]
    split <;> omega
theorem pc_lt : ∀ nr, nr ≤ 5 → ∀ q, q < 2 ^ nr → pcN q ≤ nr := by decide +kernel
def flMS (G : FF) (nr : Nat) (s m x : Int32) : Nat := suS G (ix s) (ix x) (ix m) nr (2 ^ nr)
def flMR (G : FF) (nr ns : Nat) (s m x : Int32) (up : Bool) : Int32 := if hasB s ns = true then (if flOk m x = true then frR (nI (flMS G nr s m x)) (flMS G nr s m x) (10 ^ nr) up else -2) else -1

set_option maxHeartbeats 4000000 in
theorem k_X6_factorial (l : Launch) (F : FF) (L : Int64) (wd : WD) (k : Nat) (hk : k < 6) : CI l yX6_factorial cX6_factorial 3 (some .int) (rmx 0 0) wd [.int (nI k)] F L (nI (fct k)) F L := by
  refine mkI [some (.int (nI k)), none, none] 2 (by decide) rfl (Nat.le_of_ble_eq_true rfl) ?_
  intro x d hx hC
  subst hx
  have hC : Cx x cX6_factorial 3 RX6 (some .int) (rmx 0 0) wd d := hC
  obtain rfl | rfl | rfl | rfl | rfl | rfl : k = 0 ∨ k = 1 ∨ k = 2 ∨ k = 3 ∨ k = 4 ∨ k = 5 := by omega
  · refine WP.iconst (pc := 0) hC dX6_factorial_0 1 (by decide) ?_
    refine WP.isn (lv' := [_, _, _]) (pc := 1) hC dX6_factorial_1 rfl (by decide) rfl ?_
    refine WP.iconst (pc := 2) hC dX6_factorial_2 2 (by decide) ?_
    refine WP.isn (lv' := [_, _, _]) (pc := 3) hC dX6_factorial_3 rfl (by decide) rfl ?_
    refine WP.iln (pc := 4) hC dX6_factorial_4 rfl ?_
    refine WP.iln (pc := 5) hC dX6_factorial_5 rfl ?_
    refine WP.icgt (pc := 6) hC dX6_factorial_6 19 (by decide) (fun h6 => ?_) (fun h6 => absurd h6 (by decide))
    refine WP.iln (pc := 19) hC dX6_factorial_19 rfl ?_
    refine WP.iret (pc := 20) hC rfl dX6_factorial_20 ?_ ?_ ?_
    all_goals (first | rfl | decide)
  · refine WP.iconst (pc := 0) hC dX6_factorial_0 1 (by decide) ?_
    refine WP.isn (lv' := [_, _, _]) (pc := 1) hC dX6_factorial_1 rfl (by decide) rfl ?_
    refine WP.iconst (pc := 2) hC dX6_factorial_2 2 (by decide) ?_
    refine WP.isn (lv' := [_, _, _]) (pc := 3) hC dX6_factorial_3 rfl (by decide) rfl ?_
    refine WP.iln (pc := 4) hC dX6_factorial_4 rfl ?_
    refine WP.iln (pc := 5) hC dX6_factorial_5 rfl ?_
    refine WP.icgt (pc := 6) hC dX6_factorial_6 19 (by decide) (fun h6 => ?_) (fun h6 => absurd h6 (by decide))
    refine WP.iln (pc := 19) hC dX6_factorial_19 rfl ?_
    refine WP.iret (pc := 20) hC rfl dX6_factorial_20 ?_ ?_ ?_
    all_goals (first | rfl | decide)
  · refine WP.iconst (pc := 0) hC dX6_factorial_0 1 (by decide) ?_
    refine WP.isn (lv' := [_, _, _]) (pc := 1) hC dX6_factorial_1 rfl (by decide) rfl ?_
    refine WP.iconst (pc := 2) hC dX6_factorial_2 2 (by decide) ?_
    refine WP.isn (lv' := [_, _, _]) (pc := 3) hC dX6_factorial_3 rfl (by decide) rfl ?_
    refine WP.iln (pc := 4) hC dX6_factorial_4 rfl ?_
    refine WP.iln (pc := 5) hC dX6_factorial_5 rfl ?_
    refine WP.icgt (pc := 6) hC dX6_factorial_6 19 (by decide) (fun h6 => absurd h6 (by decide)) (fun h6 => ?_)
    refine WP.iln (pc := 9) hC dX6_factorial_9 rfl ?_
    refine WP.iln (pc := 10) hC dX6_factorial_10 rfl ?_
    refine WP.imul (pc := 11) hC dX6_factorial_11 ?_
    refine WP.isn (lv' := [_, _, _]) (pc := 12) hC dX6_factorial_12 rfl (by decide) rfl ?_
    refine WP.iinc (lv' := [_, _, _]) (pc := 13) hC dX6_factorial_13 rfl (_ + 1) rfl rfl (by decide) rfl ?_
    refine WP.goto (pc := 16) hC dX6_factorial_16 4 (by decide) ?_
    refine WP.iln (pc := 4) hC dX6_factorial_4 rfl ?_
    refine WP.iln (pc := 5) hC dX6_factorial_5 rfl ?_
    refine WP.icgt (pc := 6) hC dX6_factorial_6 19 (by decide) (fun h6 => ?_) (fun h6 => absurd h6 (by decide))
    refine WP.iln (pc := 19) hC dX6_factorial_19 rfl ?_
    refine WP.iret (pc := 20) hC rfl dX6_factorial_20 ?_ ?_ ?_
    all_goals (first | rfl | decide)
  · refine WP.iconst (pc := 0) hC dX6_factorial_0 1 (by decide) ?_
    refine WP.isn (lv' := [_, _, _]) (pc := 1) hC dX6_factorial_1 rfl (by decide) rfl ?_
    refine WP.iconst (pc := 2) hC dX6_factorial_2 2 (by decide) ?_
    refine WP.isn (lv' := [_, _, _]) (pc := 3) hC dX6_factorial_3 rfl (by decide) rfl ?_
    refine WP.iln (pc := 4) hC dX6_factorial_4 rfl ?_
    refine WP.iln (pc := 5) hC dX6_factorial_5 rfl ?_
    refine WP.icgt (pc := 6) hC dX6_factorial_6 19 (by decide) (fun h6 => absurd h6 (by decide)) (fun h6 => ?_)
    refine WP.iln (pc := 9) hC dX6_factorial_9 rfl ?_
    refine WP.iln (pc := 10) hC dX6_factorial_10 rfl ?_
    refine WP.imul (pc := 11) hC dX6_factorial_11 ?_
    refine WP.isn (lv' := [_, _, _]) (pc := 12) hC dX6_factorial_12 rfl (by decide) rfl ?_
    refine WP.iinc (lv' := [_, _, _]) (pc := 13) hC dX6_factorial_13 rfl (_ + 1) rfl rfl (by decide) rfl ?_
    refine WP.goto (pc := 16) hC dX6_factorial_16 4 (by decide) ?_
    refine WP.iln (pc := 4) hC dX6_factorial_4 rfl ?_
    refine WP.iln (pc := 5) hC dX6_factorial_5 rfl ?_
    refine WP.icgt (pc := 6) hC dX6_factorial_6 19 (by decide) (fun h6 => absurd h6 (by decide)) (fun h6 => ?_)
    refine WP.iln (pc := 9) hC dX6_factorial_9 rfl ?_
    refine WP.iln (pc := 10) hC dX6_factorial_10 rfl ?_
    refine WP.imul (pc := 11) hC dX6_factorial_11 ?_
    refine WP.isn (lv' := [_, _, _]) (pc := 12) hC dX6_factorial_12 rfl (by decide) rfl ?_
    refine WP.iinc (lv' := [_, _, _]) (pc := 13) hC dX6_factorial_13 rfl (_ + 1) rfl rfl (by decide) rfl ?_
    refine WP.goto (pc := 16) hC dX6_factorial_16 4 (by decide) ?_
    refine WP.iln (pc := 4) hC dX6_factorial_4 rfl ?_
    refine WP.iln (pc := 5) hC dX6_factorial_5 rfl ?_
    refine WP.icgt (pc := 6) hC dX6_factorial_6 19 (by decide) (fun h6 => ?_) (fun h6 => absurd h6 (by decide))
    refine WP.iln (pc := 19) hC dX6_factorial_19 rfl ?_
    refine WP.iret (pc := 20) hC rfl dX6_factorial_20 ?_ ?_ ?_
    all_goals (first | rfl | decide)
  · refine WP.iconst (pc := 0) hC dX6_factorial_0 1 (by decide) ?_
    refine WP.isn (lv' := [_, _, _]) (pc := 1) hC dX6_factorial_1 rfl (by decide) rfl ?_
    refine WP.iconst (pc := 2) hC dX6_factorial_2 2 (by decide) ?_
    refine WP.isn (lv' := [_, _, _]) (pc := 3) hC dX6_factorial_3 rfl (by decide) rfl ?_
    refine WP.iln (pc := 4) hC dX6_factorial_4 rfl ?_
    refine WP.iln (pc := 5) hC dX6_factorial_5 rfl ?_
    refine WP.icgt (pc := 6) hC dX6_factorial_6 19 (by decide) (fun h6 => absurd h6 (by decide)) (fun h6 => ?_)
    refine WP.iln (pc := 9) hC dX6_factorial_9 rfl ?_
    refine WP.iln (pc := 10) hC dX6_factorial_10 rfl ?_
    refine WP.imul (pc := 11) hC dX6_factorial_11 ?_
    refine WP.isn (lv' := [_, _, _]) (pc := 12) hC dX6_factorial_12 rfl (by decide) rfl ?_
    refine WP.iinc (lv' := [_, _, _]) (pc := 13) hC dX6_factorial_13 rfl (_ + 1) rfl rfl (by decide) rfl ?_
    refine WP.goto (pc := 16) hC dX6_factorial_16 4 (by decide) ?_
    refine WP.iln (pc := 4) hC dX6_factorial_4 rfl ?_
    refine WP.iln (pc := 5) hC dX6_factorial_5 rfl ?_
    refine WP.icgt (pc := 6) hC dX6_factorial_6 19 (by decide) (fun h6 => absurd h6 (by decide)) (fun h6 => ?_)
    refine WP.iln (pc := 9) hC dX6_factorial_9 rfl ?_
    refine WP.iln (pc := 10) hC dX6_factorial_10 rfl ?_
    refine WP.imul (pc := 11) hC dX6_factorial_11 ?_
    refine WP.isn (lv' := [_, _, _]) (pc := 12) hC dX6_factorial_12 rfl (by decide) rfl ?_
    refine WP.iinc (lv' := [_, _, _]) (pc := 13) hC dX6_factorial_13 rfl (_ + 1) rfl rfl (by decide) rfl ?_
    refine WP.goto (pc := 16) hC dX6_factorial_16 4 (by decide) ?_
    refine WP.iln (pc := 4) hC dX6_factorial_4 rfl ?_
    refine WP.iln (pc := 5) hC dX6_factorial_5 rfl ?_
    refine WP.icgt (pc := 6) hC dX6_factorial_6 19 (by decide) (fun h6 => absurd h6 (by decide)) (fun h6 => ?_)
    refine WP.iln (pc := 9) hC dX6_factorial_9 rfl ?_
    refine WP.iln (pc := 10) hC dX6_factorial_10 rfl ?_
    refine WP.imul (pc := 11) hC dX6_factorial_11 ?_
    refine WP.isn (lv' := [_, _, _]) (pc := 12) hC dX6_factorial_12 rfl (by decide) rfl ?_
    refine WP.iinc (lv' := [_, _, _]) (pc := 13) hC dX6_factorial_13 rfl (_ + 1) rfl rfl (by decide) rfl ?_
    refine WP.goto (pc := 16) hC dX6_factorial_16 4 (by decide) ?_
    refine WP.iln (pc := 4) hC dX6_factorial_4 rfl ?_
    refine WP.iln (pc := 5) hC dX6_factorial_5 rfl ?_
    refine WP.icgt (pc := 6) hC dX6_factorial_6 19 (by decide) (fun h6 => ?_) (fun h6 => absurd h6 (by decide))
    refine WP.iln (pc := 19) hC dX6_factorial_19 rfl ?_
    refine WP.iret (pc := 20) hC rfl dX6_factorial_20 ?_ ?_ ?_
    all_goals (first | rfl | decide)
  · refine WP.iconst (pc := 0) hC dX6_factorial_0 1 (by decide) ?_
    refine WP.isn (lv' := [_, _, _]) (pc := 1) hC dX6_factorial_1 rfl (by decide) rfl ?_
    refine WP.iconst (pc := 2) hC dX6_factorial_2 2 (by decide) ?_
    refine WP.isn (lv' := [_, _, _]) (pc := 3) hC dX6_factorial_3 rfl (by decide) rfl ?_
    refine WP.iln (pc := 4) hC dX6_factorial_4 rfl ?_
    refine WP.iln (pc := 5) hC dX6_factorial_5 rfl ?_
    refine WP.icgt (pc := 6) hC dX6_factorial_6 19 (by decide) (fun h6 => absurd h6 (by decide)) (fun h6 => ?_)
    refine WP.iln (pc := 9) hC dX6_factorial_9 rfl ?_
    refine WP.iln (pc := 10) hC dX6_factorial_10 rfl ?_
    refine WP.imul (pc := 11) hC dX6_factorial_11 ?_
    refine WP.isn (lv' := [_, _, _]) (pc := 12) hC dX6_factorial_12 rfl (by decide) rfl ?_
    refine WP.iinc (lv' := [_, _, _]) (pc := 13) hC dX6_factorial_13 rfl (_ + 1) rfl rfl (by decide) rfl ?_
    refine WP.goto (pc := 16) hC dX6_factorial_16 4 (by decide) ?_
    refine WP.iln (pc := 4) hC dX6_factorial_4 rfl ?_
    refine WP.iln (pc := 5) hC dX6_factorial_5 rfl ?_
    refine WP.icgt (pc := 6) hC dX6_factorial_6 19 (by decide) (fun h6 => absurd h6 (by decide)) (fun h6 => ?_)
    refine WP.iln (pc := 9) hC dX6_factorial_9 rfl ?_
    refine WP.iln (pc := 10) hC dX6_factorial_10 rfl ?_
    refine WP.imul (pc := 11) hC dX6_factorial_11 ?_
    refine WP.isn (lv' := [_, _, _]) (pc := 12) hC dX6_factorial_12 rfl (by decide) rfl ?_
    refine WP.iinc (lv' := [_, _, _]) (pc := 13) hC dX6_factorial_13 rfl (_ + 1) rfl rfl (by decide) rfl ?_
    refine WP.goto (pc := 16) hC dX6_factorial_16 4 (by decide) ?_
    refine WP.iln (pc := 4) hC dX6_factorial_4 rfl ?_
    refine WP.iln (pc := 5) hC dX6_factorial_5 rfl ?_
    refine WP.icgt (pc := 6) hC dX6_factorial_6 19 (by decide) (fun h6 => absurd h6 (by decide)) (fun h6 => ?_)
    refine WP.iln (pc := 9) hC dX6_factorial_9 rfl ?_
    refine WP.iln (pc := 10) hC dX6_factorial_10 rfl ?_
    refine WP.imul (pc := 11) hC dX6_factorial_11 ?_
    refine WP.isn (lv' := [_, _, _]) (pc := 12) hC dX6_factorial_12 rfl (by decide) rfl ?_
    refine WP.iinc (lv' := [_, _, _]) (pc := 13) hC dX6_factorial_13 rfl (_ + 1) rfl rfl (by decide) rfl ?_
    refine WP.goto (pc := 16) hC dX6_factorial_16 4 (by decide) ?_
    refine WP.iln (pc := 4) hC dX6_factorial_4 rfl ?_
    refine WP.iln (pc := 5) hC dX6_factorial_5 rfl ?_
    refine WP.icgt (pc := 6) hC dX6_factorial_6 19 (by decide) (fun h6 => absurd h6 (by decide)) (fun h6 => ?_)
    refine WP.iln (pc := 9) hC dX6_factorial_9 rfl ?_
    refine WP.iln (pc := 10) hC dX6_factorial_10 rfl ?_
    refine WP.imul (pc := 11) hC dX6_factorial_11 ?_
    refine WP.isn (lv' := [_, _, _]) (pc := 12) hC dX6_factorial_12 rfl (by decide) rfl ?_
    refine WP.iinc (lv' := [_, _, _]) (pc := 13) hC dX6_factorial_13 rfl (_ + 1) rfl rfl (by decide) rfl ?_
    refine WP.goto (pc := 16) hC dX6_factorial_16 4 (by decide) ?_
    refine WP.iln (pc := 4) hC dX6_factorial_4 rfl ?_
    refine WP.iln (pc := 5) hC dX6_factorial_5 rfl ?_
    refine WP.icgt (pc := 6) hC dX6_factorial_6 19 (by decide) (fun h6 => ?_) (fun h6 => absurd h6 (by decide))
    refine WP.iln (pc := 19) hC dX6_factorial_19 rfl ?_
    refine WP.iret (pc := 20) hC rfl dX6_factorial_20 ?_ ?_ ?_
    all_goals (first | rfl | decide)
set_option maxHeartbeats 4000000 in
theorem k_X6_common (l : Launch) (F : FF) (L : Int64) (wd : WD) (v : Int32) (a0 b0 : Nat) (hv0 : abZ v = nI a0) (ha0 : a0 < 2 ^ 31) (hb0 : b0 < 2 ^ 31) : CI l yX6_common cX6_common 5 (some .int) (rmx 0 0) wd [.int v, .int (nI b0)] F L (nI (Nat.gcd a0 b0)) F L := by
  refine mkI [some (.int v), some (.int (nI b0)), none, none, none] 3 (by decide) rfl (Nat.le_of_ble_eq_true rfl) ?_
  intro x d hx hC
  subst hx
  have hC : Cx x cX6_common 5 RX6 (some .int) (rmx 0 0) wd d := hC
  generalize hV : Nat.gcd a0 b0 = V
  have loop : ∀ b : Nat, ∀ a : Nat, ∀ a4 p0 : Option Value, a < 2 ^ 31 → b < 2 ^ 31 → Nat.gcd a b = V → WP x 5 wd d (QI x wd d (nI V) F L) 13 [p0, some (.int (nI b0)), some (.int (nI a)), some (.int (nI b)), a4] [] F L := by
    intro b
    induction b using Nat.strongRecOn with
    | ind b ih =>
    intro a a4 p0 ha hb hv
    refine WP.iln (pc := 13) hC dX6_common_13 rfl ?_
    refine WP.ifeq (pc := 14) hC dX6_common_14 30 (by decide) (fun h14 => ?_) (fun h14 => ?_)
    · have hb0 : b = 0 := (nI_eq (b := 0) hb (by decide)).mp h14
      have hav : a = V := by rw [← hv, hb0, Nat.gcd_zero_right]
      refine WP.iln (pc := 30) hC dX6_common_30 rfl ?_
      refine WP.iret (pc := 31) hC rfl dX6_common_31 ?_ ?_ ?_
      all_goals (first | rfl | (rw [hav]))
    · have hb0 : ¬ b = 0 := fun z => h14 (by rw [z]; rfl)
      refine WP.iln (pc := 17) hC dX6_common_17 rfl ?_
      refine WP.iln (pc := 18) hC dX6_common_18 rfl ?_
      refine WP.irem (pc := 19) hC dX6_common_19 h14 ?_
      rw [pk_rem ha (by omega) hb]
      refine WP.is (lv' := [_, _, _, _, _]) (pc := 20) hC dX6_common_20 rfl (by decide) rfl ?_
      refine WP.iln (pc := 22) hC dX6_common_22 rfl ?_
      refine WP.isn (lv' := [_, _, _, _, _]) (pc := 23) hC dX6_common_23 rfl (by decide) rfl ?_
      refine WP.il (pc := 24) hC dX6_common_24 rfl ?_
      refine WP.isn (lv' := [_, _, _, _, _]) (pc := 26) hC dX6_common_26 rfl (by decide) rfl ?_
      refine WP.goto (pc := 27) hC dX6_common_27 13 (by decide) ?_
      exact ih (a % b) (Nat.mod_lt _ (by omega)) b _ _ hb (Nat.lt_trans (Nat.mod_lt _ (by omega)) hb) (by rw [← hv, Nat.gcd_comm a b, Nat.gcd_rec b a, Nat.gcd_comm])
  refine WP.iln (pc := 0) hC dX6_common_0 rfl ?_
  refine WP.ifge (pc := 1) hC dX6_common_1 9 (by decide) (fun h1 => ?_) (fun h1 => ?_)
  · refine WP.iln (pc := 9) hC dX6_common_9 rfl ?_
    first | rw [show v = nI a0 by rw [← hv0, abZ, if_pos h1]] | rw [show -v = nI a0 by rw [neg0, ← hv0, abZ, if_neg h1]]
    refine WP.isn (lv' := [_, _, _, _, _]) (pc := 10) hC dX6_common_10 rfl (by decide) rfl ?_
    refine WP.iln (pc := 11) hC dX6_common_11 rfl ?_
    refine WP.isn (lv' := [_, _, _, _, _]) (pc := 12) hC dX6_common_12 rfl (by decide) rfl ?_
    exact loop b0 a0 _ _ ha0 hb0 hV
  · refine WP.iln (pc := 4) hC dX6_common_4 rfl ?_
    refine WP.ineg (pc := 5) hC dX6_common_5 ?_
    refine WP.goto (pc := 6) hC dX6_common_6 10 (by decide) ?_
    first | rw [show v = nI a0 by rw [← hv0, abZ, if_pos h1]] | rw [show -v = nI a0 by rw [neg0, ← hv0, abZ, if_neg h1]]
    refine WP.isn (lv' := [_, _, _, _, _]) (pc := 10) hC dX6_common_10 rfl (by decide) rfl ?_
    refine WP.iln (pc := 11) hC dX6_common_11 rfl ?_
    refine WP.isn (lv' := [_, _, _, _, _]) (pc := 12) hC dX6_common_12 rfl (by decide) rfl ?_
    exact loop b0 a0 _ _ ha0 hb0 hV
set_option maxHeartbeats 4000000 in
theorem k_X6_rightBy (l : Launch) (F : FF) (L : Int64) (nr ns q : Nat) (hM : MR F nr ns) (hq : q < 32) : CI l yX6_rightBy cX6_rightBy 6 (some .int) (rmx 4 98) wM [.ref 0, .int (nI q)] F L (nI (rbM F nr ns q)) F L := by
  refine mkI [some (.ref 0), some (.int (nI q)), none, none, none, none] 4 (by decide) rfl (Nat.le_of_ble_eq_true rfl) ?_
  intro x d hx hC
  subst hx
  have hC : Cx x cX6_rightBy 6 RX6 (some .int) (rmx 4 98) wM d := hC
  have hs4 := hM.2.2.2
  have loop : ∀ s, s ≤ ns → ∀ a4 a5 : Option Value, WP x 6 wM d (QI x wM d (nI (rbM F nr ns q)) F L) 4 [some (.ref 0), some (.int (nI q)), some (.int (nI (cntN (rbS F nr q) s))), some (.int (nI s)), a4, a5] [] F L := by
    refine loop_c (n := ns) (P := fun s => ∀ a4 a5 : Option Value, WP x 6 wM d (QI x wM d (nI (rbM F nr ns q)) F L) 4 [some (.ref 0), some (.int (nI q)), some (.int (nI (cntN (rbS F nr q) s))), some (.int (nI s)), a4, a5] [] F L) ?_
    intro s hs0 ih a4 a5
    refine WP.iln (pc := 4) hC dX6_rightBy_4 rfl ?_
    refine WP.aln (pc := 5) hC dX6_rightBy_5 rfl ?_
    refine WP.gf (pc := 6) hC dX6_rightBy_6 fl_X6_89 (by decide) rfl rfl ?_
    refine WP.icge (pc := 9) hC dX6_rightBy_9 72 (by decide) (fun h9 => ?_) (fun h9 => ?_)
    · have h_s : s = ns := by
        have h9 := h9
        rw [hM.2.1] at h9
        have := (nI_leI (by omega) (by omega)).mp h9
        omega
      subst h_s
      refine WP.iln (pc := 72) hC dX6_rightBy_72 rfl ?_
      refine WP.iret (pc := 73) hC rfl dX6_rightBy_73 ?_ ?_ ?_
      all_goals (rfl)
    · have h_s : s < ns := by
        have h9 := h9
        rw [hM.2.1] at h9
        exact (nI_ltI (by omega) (by omega)).mp (i_nle.mp h9)
      have hv := ih h_s
      have hy : yesM F nr s < 32 := Nat.lt_of_lt_of_le (bits_lt _ _) (pow5 nr hM.2.2.1).1
      have hle := pc_and_le _ hy q hq
      have hp5 := pcN_le q
      refine WP.aln (pc := 12) hC dX6_rightBy_12 rfl ?_
      refine WP.iln (pc := 13) hC dX6_rightBy_13 rfl ?_
      refine WP.callVI (pc := 14) hC dX6_rightBy_14 (k_X6_yesOn _ F L nr ns s hM (by omega)) ml_X6_121 rfl rfl (by decide) rfl (Nat.le_of_ble_eq_true rfl) ⟨by decide, by decide⟩ ?_
      refine WP.iln (pc := 17) hC dX6_rightBy_17 rfl ?_
      refine WP.iand (pc := 18) hC dX6_rightBy_18 ?_
      rw [nI_and]
      refine WP.callSI (pc := 19) hC dX6_rightBy_19 (k_X6_ones _ F L wM _) ml_X6_137 rfl rfl (Nat.le_of_ble_eq_true rfl) ⟨by decide, by decide⟩ ?_
      rw [on5 _ (and_lt32 hq)]
      refine WP.is (lv' := [_, _, _, _, _, _]) (pc := 22) hC dX6_rightBy_22 rfl (by decide) rfl ?_
      refine WP.aln (pc := 24) hC dX6_rightBy_24 rfl ?_
      refine WP.gf (pc := 25) hC dX6_rightBy_25 fl_X6_19 (by decide) rfl rfl ?_
      refine WP.iln (pc := 28) hC dX6_rightBy_28 rfl ?_
      refine WP.ial (pc := 29) hC dX6_rightBy_29 s rfl (by omega) (by decide) rfl (by decide) ?_
      refine WP.ifle (pc := 30) hC dX6_rightBy_30 38 (by decide) (fun h30 => ?_) (fun h30 => ?_)
      · have hr : (if 0 < F 4 s then pcN (yesM F nr s &&& q) else pcN q - pcN (yesM F nr s &&& q)) = pcN q - pcN (yesM F nr s &&& q) := if_neg (i_nlt.mpr h30)
        refine WP.iln (pc := 38) hC dX6_rightBy_38 rfl ?_
        refine WP.callSI (pc := 39) hC dX6_rightBy_39 (k_X6_ones _ F L wM _) ml_X6_137 rfl rfl (Nat.le_of_ble_eq_true rfl) ⟨by decide, by decide⟩ ?_
        rw [on5 q hq]
        refine WP.il (pc := 42) hC dX6_rightBy_42 rfl ?_
        refine WP.isub (pc := 44) hC dX6_rightBy_44 ?_
        try rw [pk_sub hle]
        refine WP.is (lv' := [_, _, _, _, _, _]) (pc := 45) hC dX6_rightBy_45 rfl (by decide) rfl ?_
        refine WP.iln (pc := 47) hC dX6_rightBy_47 rfl ?_
        refine WP.iconst (pc := 48) hC dX6_rightBy_48 2 (by decide) ?_
        refine WP.il (pc := 49) hC dX6_rightBy_49 rfl ?_
        refine WP.imul (pc := 51) hC dX6_rightBy_51 ?_
        first | rw [show (2 : Int32) * nI (pcN (yesM F nr s &&& q)) = nI (2 * pcN (yesM F nr s &&& q)) from pk_mul 2 _] | rw [show (2 : Int32) * nI (pcN q - pcN (yesM F nr s &&& q)) = nI (2 * (pcN q - pcN (yesM F nr s &&& q))) from pk_mul 2 _]
        refine WP.iln (pc := 52) hC dX6_rightBy_52 rfl ?_
        refine WP.callSI (pc := 53) hC dX6_rightBy_53 (k_X6_ones _ F L wM _) ml_X6_137 rfl rfl (Nat.le_of_ble_eq_true rfl) ⟨by decide, by decide⟩ ?_
        rw [on5 q hq]
        refine WP.icle (pc := 56) hC dX6_rightBy_56 63 (by decide) (fun h56 => ?_) (fun h56 => ?_)
        · have ho : rbS F nr q s = false := by unfold rbS; rw [hr]; exact decide_eq_false (Nat.not_lt.mpr ((nI_leI (by omega) (by omega)).mp h56))
          refine WP.iconst (pc := 63) hC dX6_rightBy_63 0 (by decide) ?_
          refine WP.iadd (pc := 64) hC dX6_rightBy_64 ?_
          first | rw [show nI (cntN (rbS F nr q) s) + 1 = nI (cntN (rbS F nr q) s + 1) from nI_add _ 1] | rw [Int32.add_zero]
          refine WP.isn (lv' := [_, _, _, _, _, _]) (pc := 65) hC dX6_rightBy_65 rfl (by decide) rfl ?_
          refine WP.iinc (lv' := [_, _, _, _, _, _]) (pc := 66) hC dX6_rightBy_66 rfl (_ + 1) rfl rfl (by decide) rfl ?_
          refine WP.goto (pc := 69) hC dX6_rightBy_69 4 (by decide) ?_
          rw [nIp1]
          first | (rw [cnt_t ho] at hv; exact hv _ _) | (rw [cnt_f ho] at hv; exact hv _ _)
        · have ho : rbS F nr q s = true := by unfold rbS; rw [hr]; exact decide_eq_true ((nI_ltI (by omega) (by omega)).mp (i_nle.mp h56))
          refine WP.iconst (pc := 59) hC dX6_rightBy_59 1 (by decide) ?_
          refine WP.goto (pc := 60) hC dX6_rightBy_60 64 (by decide) ?_
          refine WP.iadd (pc := 64) hC dX6_rightBy_64 ?_
          first | rw [show nI (cntN (rbS F nr q) s) + 1 = nI (cntN (rbS F nr q) s + 1) from nI_add _ 1] | rw [Int32.add_zero]
          refine WP.isn (lv' := [_, _, _, _, _, _]) (pc := 65) hC dX6_rightBy_65 rfl (by decide) rfl ?_
          refine WP.iinc (lv' := [_, _, _, _, _, _]) (pc := 66) hC dX6_rightBy_66 rfl (_ + 1) rfl rfl (by decide) rfl ?_
          refine WP.goto (pc := 69) hC dX6_rightBy_69 4 (by decide) ?_
          rw [nIp1]
          first | (rw [cnt_t ho] at hv; exact hv _ _) | (rw [cnt_f ho] at hv; exact hv _ _)
      · have hr : (if 0 < F 4 s then pcN (yesM F nr s &&& q) else pcN q - pcN (yesM F nr s &&& q)) = pcN (yesM F nr s &&& q) := if_pos (i_nle.mp h30)
        refine WP.il (pc := 33) hC dX6_rightBy_33 rfl ?_
        refine WP.goto (pc := 35) hC dX6_rightBy_35 45 (by decide) ?_
        try rw [pk_sub hle]
        refine WP.is (lv' := [_, _, _, _, _, _]) (pc := 45) hC dX6_rightBy_45 rfl (by decide) rfl ?_
        refine WP.iln (pc := 47) hC dX6_rightBy_47 rfl ?_
        refine WP.iconst (pc := 48) hC dX6_rightBy_48 2 (by decide) ?_
        refine WP.il (pc := 49) hC dX6_rightBy_49 rfl ?_
        refine WP.imul (pc := 51) hC dX6_rightBy_51 ?_
        first | rw [show (2 : Int32) * nI (pcN (yesM F nr s &&& q)) = nI (2 * pcN (yesM F nr s &&& q)) from pk_mul 2 _] | rw [show (2 : Int32) * nI (pcN q - pcN (yesM F nr s &&& q)) = nI (2 * (pcN q - pcN (yesM F nr s &&& q))) from pk_mul 2 _]
        refine WP.iln (pc := 52) hC dX6_rightBy_52 rfl ?_
        refine WP.callSI (pc := 53) hC dX6_rightBy_53 (k_X6_ones _ F L wM _) ml_X6_137 rfl rfl (Nat.le_of_ble_eq_true rfl) ⟨by decide, by decide⟩ ?_
        rw [on5 q hq]
        refine WP.icle (pc := 56) hC dX6_rightBy_56 63 (by decide) (fun h56 => ?_) (fun h56 => ?_)
        · have ho : rbS F nr q s = false := by unfold rbS; rw [hr]; exact decide_eq_false (Nat.not_lt.mpr ((nI_leI (by omega) (by omega)).mp h56))
          refine WP.iconst (pc := 63) hC dX6_rightBy_63 0 (by decide) ?_
          refine WP.iadd (pc := 64) hC dX6_rightBy_64 ?_
          first | rw [show nI (cntN (rbS F nr q) s) + 1 = nI (cntN (rbS F nr q) s + 1) from nI_add _ 1] | rw [Int32.add_zero]
          refine WP.isn (lv' := [_, _, _, _, _, _]) (pc := 65) hC dX6_rightBy_65 rfl (by decide) rfl ?_
          refine WP.iinc (lv' := [_, _, _, _, _, _]) (pc := 66) hC dX6_rightBy_66 rfl (_ + 1) rfl rfl (by decide) rfl ?_
          refine WP.goto (pc := 69) hC dX6_rightBy_69 4 (by decide) ?_
          rw [nIp1]
          first | (rw [cnt_t ho] at hv; exact hv _ _) | (rw [cnt_f ho] at hv; exact hv _ _)
        · have ho : rbS F nr q s = true := by unfold rbS; rw [hr]; exact decide_eq_true ((nI_ltI (by omega) (by omega)).mp (i_nle.mp h56))
          refine WP.iconst (pc := 59) hC dX6_rightBy_59 1 (by decide) ?_
          refine WP.goto (pc := 60) hC dX6_rightBy_60 64 (by decide) ?_
          refine WP.iadd (pc := 64) hC dX6_rightBy_64 ?_
          first | rw [show nI (cntN (rbS F nr q) s) + 1 = nI (cntN (rbS F nr q) s + 1) from nI_add _ 1] | rw [Int32.add_zero]
          refine WP.isn (lv' := [_, _, _, _, _, _]) (pc := 65) hC dX6_rightBy_65 rfl (by decide) rfl ?_
          refine WP.iinc (lv' := [_, _, _, _, _, _]) (pc := 66) hC dX6_rightBy_66 rfl (_ + 1) rfl rfl (by decide) rfl ?_
          refine WP.goto (pc := 69) hC dX6_rightBy_69 4 (by decide) ?_
          rw [nIp1]
          first | (rw [cnt_t ho] at hv; exact hv _ _) | (rw [cnt_f ho] at hv; exact hv _ _)
  refine WP.iconst (pc := 0) hC dX6_rightBy_0 0 (by decide) ?_
  refine WP.isn (lv' := [_, _, _, _, _, _]) (pc := 1) hC dX6_rightBy_1 rfl (by decide) rfl ?_
  refine WP.iconst (pc := 2) hC dX6_rightBy_2 0 (by decide) ?_
  refine WP.isn (lv' := [_, _, _, _, _, _]) (pc := 3) hC dX6_rightBy_3 rfl (by decide) rfl ?_
  exact loop 0 (Nat.zero_le _) _ _
set_option maxHeartbeats 4000000 in
theorem k_X6_share (l : Launch) (F : FF) (L : Int64) (nr ns a : Nat) (r : Int32) (up : Bool) (hM : MR F nr ns) (ha : abZ (shMV F nr ns (ix r)) = nI a) (ha2 : a < 2 ^ 31) : CI l yX6_share cX6_share 6 (some .int) (rmx 5 123) wM [.ref 0, .int r, .int (b2 up)] F L (shMR F nr ns a r up) F L := by
  refine mkI [some (.ref 0), some (.int r), some (.int (b2 up)), none, none, none] 3 (by decide) rfl (Nat.le_of_ble_eq_true rfl) ?_
  intro x d hx hC
  subst hx
  have hC : Cx x cX6_share 6 RX6 (some .int) (rmx 5 123) wM d := hC
  refine WP.aln (pc := 0) hC dX6_share_0 rfl ?_
  refine WP.iln (pc := 1) hC dX6_share_1 rfl ?_
  refine WP.callVI (pc := 2) hC dX6_share_2 (k_X6_isReader _ F L nr ns r hM) ml_X6_111 rfl rfl (by decide) rfl (Nat.le_of_ble_eq_true rfl) ⟨by decide, by decide⟩ ?_
  refine WP.ifne (pc := 5) hC dX6_share_5 10 (by decide) (fun h5 => ?_) (fun h5 => ?_)
  · rw [b2_n0] at h5
    obtain ⟨i, hi, rfl⟩ := hasB_of hM.2.2.1 h5
    have hi5 : i < 5 := by have := hM.2.2.1; omega
    have ei : ix (nI i) = i := ix_nI (by omega)
    have hr5 := hM.2.2.1
    have h32 := pow5 nr hr5
    have hfc := fct_b nr hr5
    have hi32 : 2 ^ i < 32 := Nat.lt_of_lt_of_le (Nat.pow_lt_pow_right (by decide) hi) h32.1
    rw [ei] at ha
    have hg0 : 0 < Nat.gcd a (fct nr) := Nat.gcd_pos_of_pos_right a hfc.1
    have hg1 : Nat.gcd a (fct nr) ≤ fct nr := Nat.gcd_le_right a hfc.1
    rw [show shMR F nr ns a (nI i) up = frR (shMV F nr ns i) a (fct nr) up by unfold shMR; rw [if_pos h5, ei]]
    have loop : ∀ q, q ≤ 2 ^ nr → ∀ a5 : Option Value, WP x 6 wM d (QI x wM d (frR (shMV F nr ns i) a (fct nr) up) F L) 15 [some (.ref 0), some (.int (nI i)), some (.int (b2 up)), some (.int (shG i (fun q => nI (ordN nr q)) (fun q => nI (rbM F nr ns q)) q)), some (.int (nI q)), a5] [] F L := by
      refine loop_c (n := 2 ^ nr) (P := fun q => ∀ a5 : Option Value, WP x 6 wM d (QI x wM d (frR (shMV F nr ns i) a (fct nr) up) F L) 15 [some (.ref 0), some (.int (nI i)), some (.int (b2 up)), some (.int (shG i (fun q => nI (ordN nr q)) (fun q => nI (rbM F nr ns q)) q)), some (.int (nI q)), a5] [] F L) ?_
      intro q hq0 ih a5
      refine WP.il (pc := 15) hC dX6_share_15 rfl ?_
      refine WP.iconst (pc := 17) hC dX6_share_17 1 (by decide) ?_
      refine WP.aln (pc := 18) hC dX6_share_18 rfl ?_
      refine WP.gf (pc := 19) hC dX6_share_19 fl_X6_86 (by decide) rfl rfl ?_
      refine WP.ishl (pc := 22) hC dX6_share_22 ?_
      rw [hM.1, sh5 nr (by omega)]
      refine WP.icge (pc := 23) hC dX6_share_23 90 (by decide) (fun h23 => ?_) (fun h23 => ?_)
      · have hq9 : q = 2 ^ nr := by
          have := (nI_leI (by omega) (by omega)).mp h23
          omega
        subst hq9
        refine WP.iln (pc := 90) hC dX6_share_90 rfl ?_
        refine WP.aln (pc := 91) hC dX6_share_91 rfl ?_
        refine WP.gf (pc := 92) hC dX6_share_92 fl_X6_86 (by decide) rfl rfl ?_
        rw [hM.1]
        refine WP.callSI (pc := 95) hC dX6_share_95 (k_X6_factorial _ F L wM nr (by omega)) ml_X6_169 rfl rfl (Nat.le_of_ble_eq_true rfl) ⟨by decide, by decide⟩ ?_
        refine WP.callSI (pc := 98) hC dX6_share_98 (k_X6_common _ F L wM _ a (fct nr) ha ha2 (by omega)) ml_X6_175 rfl rfl (Nat.le_of_ble_eq_true rfl) ⟨by decide, by decide⟩ ?_
        refine WP.is (lv' := [_, _, _, _, _, _]) (pc := 101) hC dX6_share_101 rfl (by decide) rfl ?_
        refine WP.iln (pc := 103) hC dX6_share_103 rfl ?_
        refine WP.ifeq (pc := 104) hC dX6_share_104 114 (by decide) (fun h104 => ?_) (fun h104 => ?_)
        · rw [b2_0] at h104
          refine WP.aln (pc := 114) hC dX6_share_114 rfl ?_
          refine WP.gf (pc := 115) hC dX6_share_115 fl_X6_86 (by decide) rfl rfl ?_
          rw [hM.1]
          refine WP.callSI (pc := 118) hC dX6_share_118 (k_X6_factorial _ F L wM nr (by omega)) ml_X6_169 rfl rfl (Nat.le_of_ble_eq_true rfl) ⟨by decide, by decide⟩ ?_
          refine WP.il (pc := 121) hC dX6_share_121 rfl ?_
          refine WP.idiv (pc := 123) hC dX6_share_123 (nI_ne0 hg0 (by omega)) ?_
          refine WP.iret (pc := 124) hC rfl dX6_share_124 ?_ ?_ ?_
          all_goals (first | rfl | (subst h104; rfl) | (subst h104; exact pk_div (by omega) hg0 (by omega)))
        · rw [b2_n0] at h104
          refine WP.iln (pc := 107) hC dX6_share_107 rfl ?_
          refine WP.il (pc := 108) hC dX6_share_108 rfl ?_
          refine WP.idiv (pc := 110) hC dX6_share_110 (nI_ne0 hg0 (by omega)) ?_
          refine WP.goto (pc := 111) hC dX6_share_111 124 (by decide) ?_
          refine WP.iret (pc := 124) hC rfl dX6_share_124 ?_ ?_ ?_
          all_goals (first | rfl | (subst h104; rfl) | (subst h104; exact pk_div (by omega) hg0 (by omega)))
      · have hq : q < 2 ^ nr := (nI_ltI (by omega) (by omega)).mp (i_nle.mp h23)
        have hv := ih hq
        refine WP.il (pc := 26) hC dX6_share_26 rfl ?_
        refine WP.iln (pc := 28) hC dX6_share_28 rfl ?_
        refine WP.callSI (pc := 29) hC dX6_share_29 (k_X6_has _ F L wM _ _) ml_X6_115 rfl rfl (Nat.le_of_ble_eq_true rfl) ⟨by decide, by decide⟩ ?_
        refine WP.ifne (pc := 32) hC dX6_share_32 84 (by decide) (fun h32 => ?_) (fun h32 => ?_)
        · refine WP.iinc (lv' := [_, _, _, _, _, _]) (pc := 84) hC dX6_share_84 rfl (_ + 1) rfl rfl (by decide) rfl ?_
          refine WP.goto (pc := 87) hC dX6_share_87 15 (by decide) ?_
          rw [nIp1]
          rw [shG] at hv
          first | (rw [if_pos h32] at hv; exact hv _) | (rw [b2_n0] at h32; rw [if_neg (fun z => by rw [(hasT5 q (by omega) i (by omega)).mpr z] at h32; cases h32)] at hv; exact hv _)
        · rw [b2_0] at h32
          have h32 := (hasT5 q (by omega) i (by omega)).mp h32
          have hp := pc_free nr hr5 i hi q hq h32
          refine WP.il (pc := 35) hC dX6_share_35 rfl ?_
          refine WP.callSI (pc := 37) hC dX6_share_37 (k_X6_ones _ F L wM _) ml_X6_137 rfl rfl (Nat.le_of_ble_eq_true rfl) ⟨by decide, by decide⟩ ?_
          rw [on5 q (by omega)]
          refine WP.callSI (pc := 40) hC dX6_share_40 (k_X6_factorial _ F L wM (pcN q) (by omega)) ml_X6_169 rfl rfl (Nat.le_of_ble_eq_true rfl) ⟨by decide, by decide⟩ ?_
          refine WP.aln (pc := 43) hC dX6_share_43 rfl ?_
          refine WP.gf (pc := 44) hC dX6_share_44 fl_X6_86 (by decide) rfl rfl ?_
          refine WP.iconst (pc := 47) hC dX6_share_47 1 (by decide) ?_
          refine WP.isub (pc := 48) hC dX6_share_48 ?_
          refine WP.il (pc := 49) hC dX6_share_49 rfl ?_
          refine WP.callSI (pc := 51) hC dX6_share_51 (k_X6_ones _ F L wM _) ml_X6_137 rfl rfl (Nat.le_of_ble_eq_true rfl) ⟨by decide, by decide⟩ ?_
          rw [on5 q (by omega)]
          refine WP.isub (pc := 54) hC dX6_share_54 ?_
          rw [show F 0 0 - 1 - nI (pcN q) = nI (nr - 1 - pcN q) by rw [hM.1, show nI nr - 1 = nI (nr - 1) from pk_sub (b := 1) (by omega), pk_sub hp]]
          refine WP.callSI (pc := 55) hC dX6_share_55 (k_X6_factorial _ F L wM (nr - 1 - pcN q) (by omega)) ml_X6_169 rfl rfl (Nat.le_of_ble_eq_true rfl) ⟨by decide, by decide⟩ ?_
          refine WP.imul (pc := 58) hC dX6_share_58 ?_
          rw [pk_mul, show fct (pcN q) * fct (nr - 1 - pcN q) = ordN nr q from rfl]
          refine WP.is (lv' := [_, _, _, _, _, _]) (pc := 59) hC dX6_share_59 rfl (by decide) rfl ?_
          refine WP.iln (pc := 61) hC dX6_share_61 rfl ?_
          refine WP.il (pc := 62) hC dX6_share_62 rfl ?_
          refine WP.aln (pc := 64) hC dX6_share_64 rfl ?_
          refine WP.il (pc := 65) hC dX6_share_65 rfl ?_
          refine WP.iconst (pc := 67) hC dX6_share_67 1 (by decide) ?_
          refine WP.iln (pc := 68) hC dX6_share_68 rfl ?_
          refine WP.ishl (pc := 69) hC dX6_share_69 ?_
          refine WP.ior (pc := 70) hC dX6_share_70 ?_
          rw [sh5 i (by omega), nI_or]
          refine WP.callVI (pc := 71) hC dX6_share_71 (k_X6_rightBy _ F L nr ns (q ||| 2 ^ i) hM (or_lt32 (by omega) hi32)) ml_X6_172 rfl rfl (by decide) rfl (Nat.le_of_ble_eq_true rfl) ⟨by decide, by decide⟩ ?_
          refine WP.aln (pc := 74) hC dX6_share_74 rfl ?_
          refine WP.il (pc := 75) hC dX6_share_75 rfl ?_
          refine WP.callVI (pc := 77) hC dX6_share_77 (k_X6_rightBy _ F L nr ns q hM (by omega)) ml_X6_172 rfl rfl (by decide) rfl (Nat.le_of_ble_eq_true rfl) ⟨by decide, by decide⟩ ?_
          refine WP.isub (pc := 80) hC dX6_share_80 ?_
          refine WP.imul (pc := 81) hC dX6_share_81 ?_
          refine WP.iadd (pc := 82) hC dX6_share_82 ?_
          refine WP.isn (lv' := [_, _, _, _, _, _]) (pc := 83) hC dX6_share_83 rfl (by decide) rfl ?_
          refine WP.iinc (lv' := [_, _, _, _, _, _]) (pc := 84) hC dX6_share_84 rfl (_ + 1) rfl rfl (by decide) rfl ?_
          refine WP.goto (pc := 87) hC dX6_share_87 15 (by decide) ?_
          rw [nIp1]
          rw [shG] at hv
          first | (rw [if_pos h32] at hv; exact hv _) | (rw [b2_n0] at h32; rw [if_neg (fun z => by rw [(hasT5 q (by omega) i (by omega)).mpr z] at h32; cases h32)] at hv; exact hv _)
    refine WP.iconst (pc := 10) hC dX6_share_10 0 (by decide) ?_
    refine WP.isn (lv' := [_, _, _, _, _, _]) (pc := 11) hC dX6_share_11 rfl (by decide) rfl ?_
    refine WP.iconst (pc := 12) hC dX6_share_12 0 (by decide) ?_
    refine WP.is (lv' := [_, _, _, _, _, _]) (pc := 13) hC dX6_share_13 rfl (by decide) rfl ?_
    exact loop 0 (Nat.zero_le _) _
  · rw [b2_0] at h5
    refine WP.iconst (pc := 8) hC dX6_share_8 (-1) (by decide) ?_
    refine WP.iret (pc := 9) hC rfl dX6_share_9 ?_ ?_ ?_
    all_goals (first | rfl | (unfold shMR; rw [if_neg (by rw [h5]; decide)]))
set_option maxHeartbeats 4000000 in
theorem k_X6_gain (l : Launch) (F : FF) (L : Int64) (i k j : Nat) (a b : Bool) (hi : i < 5) (hk : k < 5) (hj : j < 4) : CI l yX6_gain cX6_gain 8 (some .int) (rmx 3 75) wM [.ref 0, .int (nI i), .int (nI k), .int (nI j), .int (b2 a), .int (b2 b)] F L (gI a b (rgM F j i) (rgM F j k)) F L := by
  refine mkI [some (.ref 0), some (.int (nI i)), some (.int (nI k)), some (.int (nI j)), some (.int (b2 a)), some (.int (b2 b)), none, none] 2 (by decide) rfl (Nat.le_of_ble_eq_true rfl) ?_
  intro x d hx hC
  subst hx
  have hC : Cx x cX6_gain 8 RX6 (some .int) (rmx 3 75) wM d := hC
  refine WP.il (pc := 0) hC dX6_gain_0 rfl ?_
  refine WP.ifne (pc := 2) hC dX6_gain_2 7 (by decide) (fun h2 => ?_) (fun h2 => ?_)
  · rw [b2_n0] at h2
    refine WP.aln (pc := 7) hC dX6_gain_7 rfl ?_
    refine WP.iconst (pc := 8) hC dX6_gain_8 0 (by decide) ?_
    refine WP.iln (pc := 9) hC dX6_gain_9 rfl ?_
    refine WP.iln (pc := 10) hC dX6_gain_10 rfl ?_
    refine WP.callVI (pc := 11) hC dX6_gain_11 (k_X6_saysOn _ F L 0 i j (by decide) hi hj) ml_X6_107 rfl rfl (by decide) rfl (Nat.le_of_ble_eq_true rfl) ⟨by decide, by decide⟩ ?_
    refine WP.is (lv' := [_, _, _, _, _, _, _, _]) (pc := 14) hC dX6_gain_14 rfl (by decide) rfl ?_
    refine WP.aln (pc := 16) hC dX6_gain_16 rfl ?_
    refine WP.il (pc := 17) hC dX6_gain_17 rfl ?_
    refine WP.iln (pc := 19) hC dX6_gain_19 rfl ?_
    refine WP.callVI (pc := 20) hC dX6_gain_20 (k_X6_isRight _ F L (sayM F 0 j i) j hj) ml_X6_178 rfl rfl (by decide) rfl (Nat.le_of_ble_eq_true rfl) ⟨by decide, by decide⟩ ?_
    rw [show (sayM F 0 j i == decide (0 < F 4 j)) = rgM F j i from rfl]
    refine WP.is (lv' := [_, _, _, _, _, _, _, _]) (pc := 23) hC dX6_gain_23 rfl (by decide) rfl ?_
    refine WP.il (pc := 25) hC dX6_gain_25 rfl ?_
    refine WP.ifne (pc := 27) hC dX6_gain_27 41 (by decide) (fun h27 => ?_) (fun h27 => ?_)
    · rw [b2_n0] at h27
      refine WP.aln (pc := 41) hC dX6_gain_41 rfl ?_
      refine WP.iconst (pc := 42) hC dX6_gain_42 0 (by decide) ?_
      refine WP.iln (pc := 43) hC dX6_gain_43 rfl ?_
      refine WP.iln (pc := 44) hC dX6_gain_44 rfl ?_
      refine WP.callVI (pc := 45) hC dX6_gain_45 (k_X6_saysOn _ F L 0 k j (by decide) hk hj) ml_X6_107 rfl rfl (by decide) rfl (Nat.le_of_ble_eq_true rfl) ⟨by decide, by decide⟩ ?_
      refine WP.il (pc := 48) hC dX6_gain_48 rfl ?_
      refine WP.icne (pc := 50) hC dX6_gain_50 57 (by decide) (fun h50 => ?_) (fun h50 => ?_)
      · have h50 : ¬ rgM F j i = rgM F j k := by
          unfold rgM
          rw [same_rg]
          exact fun z => h50 (by rw [z])
        refine WP.il (pc := 57) hC dX6_gain_57 rfl ?_
        refine WP.ifeq (pc := 59) hC dX6_gain_59 66 (by decide) (fun h59 => ?_) (fun h59 => ?_)
        · rw [b2_0] at h59
          refine WP.bipush (pc := 66) hC dX6_gain_66 (-3) (by decide) ?_
          refine WP.iret (pc := 68) hC rfl dX6_gain_68 ?_ ?_ ?_
          all_goals (first | rfl | (unfold gI; rw [if_neg (by simp [h2]), if_neg (by simp [h27]), if_pos h50]) | (unfold gI; rw [if_neg (by simp [h2]), if_neg (by simp [h27]), if_neg h50, h59]; rfl))
        · rw [b2_n0] at h59
          refine WP.iconst (pc := 62) hC dX6_gain_62 3 (by decide) ?_
          refine WP.goto (pc := 63) hC dX6_gain_63 68 (by decide) ?_
          refine WP.iret (pc := 68) hC rfl dX6_gain_68 ?_ ?_ ?_
          all_goals (first | rfl | (unfold gI; rw [if_neg (by simp [h2]), if_neg (by simp [h27]), if_pos h50]) | (unfold gI; rw [if_neg (by simp [h2]), if_neg (by simp [h27]), if_neg h50, h59]; rfl))
      · have h50 : rgM F j i = rgM F j k := by unfold rgM; rw [b2_inj h50]
        refine WP.iconst (pc := 53) hC dX6_gain_53 1 (by decide) ?_
        refine WP.goto (pc := 54) hC dX6_gain_54 68 (by decide) ?_
        refine WP.iret (pc := 68) hC rfl dX6_gain_68 ?_ ?_ ?_
        all_goals (first | rfl | (unfold gI; rw [if_neg (by simp [h2]), if_neg (by simp [h27]), if_pos h50]) | (unfold gI; rw [if_neg (by simp [h2]), if_neg (by simp [h27]), if_neg h50, h59]; rfl))
    · rw [b2_0] at h27
      refine WP.il (pc := 30) hC dX6_gain_30 rfl ?_
      refine WP.ifeq (pc := 32) hC dX6_gain_32 39 (by decide) (fun h32 => ?_) (fun h32 => ?_)
      · rw [b2_0] at h32
        refine WP.iconst (pc := 39) hC dX6_gain_39 (-1) (by decide) ?_
        refine WP.iret (pc := 40) hC rfl dX6_gain_40 ?_ ?_ ?_
        all_goals (first | rfl | (simp [gI, h2, h27, h32]; done))
      · rw [b2_n0] at h32
        refine WP.iconst (pc := 35) hC dX6_gain_35 2 (by decide) ?_
        refine WP.goto (pc := 36) hC dX6_gain_36 40 (by decide) ?_
        refine WP.iret (pc := 40) hC rfl dX6_gain_40 ?_ ?_ ?_
        all_goals (first | rfl | (simp [gI, h2, h27, h32]; done))
  · rw [b2_0] at h2
    refine WP.iconst (pc := 5) hC dX6_gain_5 0 (by decide) ?_
    refine WP.iret (pc := 6) hC rfl dX6_gain_6 ?_ ?_ ?_
    all_goals (first | rfl | (simp [gI, h2]; done))
set_option maxHeartbeats 4000000 in
theorem k_X6_isRest (l : Launch) (F : FF) (L : Int64) (i k j : Nat) (a b : Bool) (hi : i < 5) (hk : k < 5) (hj : j < 4) : CI l yX6_isRest cX6_isRest 6 (some .boolean) (rmx 4 102) wM [.ref 0, .int (nI i), .int (nI k), .int (nI j), .int (b2 a), .int (b2 b)] F L (b2 (rtB (rgM F j i) (rgM F j k) a b)) F L := by
  refine mkI [some (.ref 0), some (.int (nI i)), some (.int (nI k)), some (.int (nI j)), some (.int (b2 a)), some (.int (b2 b))] 0 (by decide) rfl (Nat.le_of_ble_eq_true rfl) ?_
  intro x d hx hC
  subst hx
  have hC : Cx x cX6_isRest 6 RX6 (some .boolean) (rmx 4 102) wM d := hC
  refine WP.aln (pc := 0) hC dX6_isRest_0 rfl ?_
  refine WP.iln (pc := 1) hC dX6_isRest_1 rfl ?_
  refine WP.iln (pc := 2) hC dX6_isRest_2 rfl ?_
  refine WP.iln (pc := 3) hC dX6_isRest_3 rfl ?_
  refine WP.iconst (pc := 4) hC dX6_isRest_4 1 (by decide) ?_
  refine WP.il (pc := 5) hC dX6_isRest_5 rfl ?_
  refine WP.isub (pc := 7) hC dX6_isRest_7 ?_
  rw [b2_not]
  refine WP.il (pc := 8) hC dX6_isRest_8 rfl ?_
  refine WP.callVI (pc := 10) hC dX6_isRest_10 (k_X6_gain _ F L i k j (!a) b hi hk hj) ml_X6_182 rfl rfl (by decide) rfl (Nat.le_of_ble_eq_true rfl) ⟨by decide, by decide⟩ ?_
  refine WP.aln (pc := 13) hC dX6_isRest_13 rfl ?_
  refine WP.iln (pc := 14) hC dX6_isRest_14 rfl ?_
  refine WP.iln (pc := 15) hC dX6_isRest_15 rfl ?_
  refine WP.iln (pc := 16) hC dX6_isRest_16 rfl ?_
  refine WP.il (pc := 17) hC dX6_isRest_17 rfl ?_
  refine WP.il (pc := 19) hC dX6_isRest_19 rfl ?_
  refine WP.callVI (pc := 21) hC dX6_isRest_21 (k_X6_gain _ F L i k j a b hi hk hj) ml_X6_182 rfl rfl (by decide) rfl (Nat.le_of_ble_eq_true rfl) ⟨by decide, by decide⟩ ?_
  refine WP.icgt (pc := 24) hC dX6_isRest_24 58 (by decide) (fun h24 => ?_) (fun h24 => ?_)
  · refine WP.iconst (pc := 58) hC dX6_isRest_58 0 (by decide) ?_
    refine WP.zret (pc := 59) hC rfl (by first | exact Or.inl rfl | exact Or.inr rfl | exact b2_01 _) dX6_isRest_59 ?_ ?_ ?_
    all_goals (first | rfl | (unfold rtB ctB; simp [b2, i_nlt.mp h24, i_nlt.mp h51]; done) | (unfold rtB ctB; simp [b2, i_nle.mpr h51]; done) | (unfold rtB ctB; simp [b2, i_nle.mpr h24]; done))
  · refine WP.aln (pc := 27) hC dX6_isRest_27 rfl ?_
    refine WP.iln (pc := 28) hC dX6_isRest_28 rfl ?_
    refine WP.iln (pc := 29) hC dX6_isRest_29 rfl ?_
    refine WP.iln (pc := 30) hC dX6_isRest_30 rfl ?_
    refine WP.iconst (pc := 31) hC dX6_isRest_31 1 (by decide) ?_
    refine WP.il (pc := 32) hC dX6_isRest_32 rfl ?_
    refine WP.isub (pc := 34) hC dX6_isRest_34 ?_
    rw [b2_not]
    refine WP.il (pc := 35) hC dX6_isRest_35 rfl ?_
    refine WP.callVI (pc := 37) hC dX6_isRest_37 (k_X6_gain _ F L k i j (!b) a hk hi hj) ml_X6_182 rfl rfl (by decide) rfl (Nat.le_of_ble_eq_true rfl) ⟨by decide, by decide⟩ ?_
    refine WP.aln (pc := 40) hC dX6_isRest_40 rfl ?_
    refine WP.iln (pc := 41) hC dX6_isRest_41 rfl ?_
    refine WP.iln (pc := 42) hC dX6_isRest_42 rfl ?_
    refine WP.iln (pc := 43) hC dX6_isRest_43 rfl ?_
    refine WP.il (pc := 44) hC dX6_isRest_44 rfl ?_
    refine WP.il (pc := 46) hC dX6_isRest_46 rfl ?_
    refine WP.callVI (pc := 48) hC dX6_isRest_48 (k_X6_gain _ F L k i j b a hk hi hj) ml_X6_182 rfl rfl (by decide) rfl (Nat.le_of_ble_eq_true rfl) ⟨by decide, by decide⟩ ?_
    refine WP.icgt (pc := 51) hC dX6_isRest_51 58 (by decide) (fun h51 => ?_) (fun h51 => ?_)
    · refine WP.iconst (pc := 58) hC dX6_isRest_58 0 (by decide) ?_
      refine WP.zret (pc := 59) hC rfl (by first | exact Or.inl rfl | exact Or.inr rfl | exact b2_01 _) dX6_isRest_59 ?_ ?_ ?_
      all_goals (first | rfl | (unfold rtB ctB; simp [b2, i_nlt.mp h24, i_nlt.mp h51]; done) | (unfold rtB ctB; simp [b2, i_nle.mpr h51]; done) | (unfold rtB ctB; simp [b2, i_nle.mpr h24]; done))
    · refine WP.iconst (pc := 54) hC dX6_isRest_54 1 (by decide) ?_
      refine WP.goto (pc := 55) hC dX6_isRest_55 59 (by decide) ?_
      refine WP.zret (pc := 59) hC rfl (by first | exact Or.inl rfl | exact Or.inr rfl | exact b2_01 _) dX6_isRest_59 ?_ ?_ ?_
      all_goals (first | rfl | (unfold rtB ctB; simp [b2, i_nlt.mp h24, i_nlt.mp h51]; done) | (unfold rtB ctB; simp [b2, i_nle.mpr h51]; done) | (unfold rtB ctB; simp [b2, i_nle.mpr h24]; done))
set_option maxHeartbeats 4000000 in
theorem k_X6_rests (l : Launch) (F : FF) (L : Int64) (nr ns : Nat) (r o s w : Int32) (hM : MR F nr ns) : CI l yX6_rests cX6_rests 8 (some .int) (rmx 5 127) wM [.ref 0, .int r, .int o, .int s, .int w] F L (rtMR F nr ns r o s w) F L := by
  refine mkI [some (.ref 0), some (.int r), some (.int o), some (.int s), some (.int w), none, none, none] 3 (by decide) rfl (Nat.le_of_ble_eq_true rfl) ?_
  intro x d hx hC
  subst hx
  have hC : Cx x cX6_rests 8 RX6 (some .int) (rmx 5 127) wM d := hC
  refine WP.aln (pc := 0) hC dX6_rests_0 rfl ?_
  refine WP.iln (pc := 1) hC dX6_rests_1 rfl ?_
  refine WP.callVI (pc := 2) hC dX6_rests_2 (k_X6_isReader _ F L nr ns r hM) ml_X6_111 rfl rfl (by decide) rfl (Nat.le_of_ble_eq_true rfl) ⟨by decide, by decide⟩ ?_
  refine WP.ifeq (pc := 5) hC dX6_rests_5 24 (by decide) (fun h5 => ?_) (fun h5 => ?_)
  · refine WP.iconst (pc := 24) hC dX6_rests_24 (-1) (by decide) ?_
    refine WP.iret (pc := 25) hC rfl dX6_rests_25 ?_ ?_ ?_
    all_goals (first | rfl | (unfold rtMR; refine (if_neg ?_).symm; unfold chk; first | (rw [b2_0] at h21; rw [h21, Bool.and_false, Bool.false_and]; decide) | (rw [b2_0] at h13; rw [h13, Bool.and_false]; decide) | (rw [b2_0] at h5; rw [h5, Bool.false_and, Bool.false_and]; decide)))
  · refine WP.aln (pc := 8) hC dX6_rests_8 rfl ?_
    refine WP.iln (pc := 9) hC dX6_rests_9 rfl ?_
    refine WP.callVI (pc := 10) hC dX6_rests_10 (k_X6_isReader _ F L nr ns o hM) ml_X6_111 rfl rfl (by decide) rfl (Nat.le_of_ble_eq_true rfl) ⟨by decide, by decide⟩ ?_
    refine WP.ifeq (pc := 13) hC dX6_rests_13 24 (by decide) (fun h13 => ?_) (fun h13 => ?_)
    · refine WP.iconst (pc := 24) hC dX6_rests_24 (-1) (by decide) ?_
      refine WP.iret (pc := 25) hC rfl dX6_rests_25 ?_ ?_ ?_
      all_goals (first | rfl | (unfold rtMR; refine (if_neg ?_).symm; unfold chk; first | (rw [b2_0] at h21; rw [h21, Bool.and_false, Bool.false_and]; decide) | (rw [b2_0] at h13; rw [h13, Bool.and_false]; decide) | (rw [b2_0] at h5; rw [h5, Bool.false_and, Bool.false_and]; decide)))
    · refine WP.aln (pc := 16) hC dX6_rests_16 rfl ?_
      refine WP.iln (pc := 17) hC dX6_rests_17 rfl ?_
      refine WP.callVI (pc := 18) hC dX6_rests_18 (k_X6_isSample _ F L nr ns s hM) ml_X6_118 rfl rfl (by decide) rfl (Nat.le_of_ble_eq_true rfl) ⟨by decide, by decide⟩ ?_
      refine WP.ifne (pc := 21) hC dX6_rests_21 26 (by decide) (fun h21 => ?_) (fun h21 => ?_)
      · rw [b2_n0] at h5 h13 h21
        obtain ⟨i, hi, rfl⟩ := hasB_of hM.2.2.1 h5
        obtain ⟨k, hk, rfl⟩ := hasB_of hM.2.2.1 h13
        obtain ⟨j, hj, rfl⟩ := hasB_of (by have := hM.2.2.2; omega) h21
        have hr5 := hM.2.2.1
        have hs4 := hM.2.2.2
        have ei : ix (nI i) = i := ix_nI (by omega)
        have ej : ix (nI j) = j := ix_nI (by omega)
        have ek : ix (nI k) = k := ix_nI (by omega)
        have hc9 : (chk (nI i) nr (nI j) ns && hasB (nI k) nr) = true := by unfold chk; rw [h5, h13, h21]; rfl
        refine WP.iln (pc := 26) hC dX6_rests_26 rfl ?_
        refine WP.iln (pc := 27) hC dX6_rests_27 rfl ?_
        refine WP.iceq (pc := 28) hC dX6_rests_28 42 (by decide) (fun h28 => ?_) (fun h28 => ?_)
        · refine WP.bipush (pc := 42) hC dX6_rests_42 (-2) (by decide) ?_
          refine WP.iret (pc := 44) hC rfl dX6_rests_44 ?_ ?_ ?_
          all_goals (first | rfl | (unfold rtMR; rw [if_pos hc9]; refine (if_neg ?_).symm; rintro ⟨q1, q2, q3⟩; first | exact q1 h28 | (rw [b2_0, Bool.and_eq_false_iff, decide_eq_false_iff_not, decide_eq_false_iff_not] at h39; rcases h39 with z | z; exact z q2; exact z q3)))
        · refine WP.il (pc := 31) hC dX6_rests_31 rfl ?_
          refine WP.i2l (pc := 33) hC dX6_rests_33 ?_
          refine WP.lconst (pc := 34) hC dX6_rests_34 0 (by decide) ?_
          refine WP.lconst (pc := 35) hC dX6_rests_35 1 (by decide) ?_
          refine WP.callSI (pc := 36) hC dX6_rests_36 (k_X6_in _ F L wM _ _ _) ml_X6_58 rfl rfl (Nat.le_of_ble_eq_true rfl) ⟨by decide, by decide⟩ ?_
          rw [in01L]
          refine WP.ifne (pc := 39) hC dX6_rests_39 45 (by decide) (fun h39 => ?_) (fun h39 => ?_)
          · rw [b2_n0, Bool.and_eq_true, decide_eq_true_eq, decide_eq_true_eq] at h39
            have hq : ¬ nI i = nI k ∧ 0 ≤ w ∧ w ≤ 1 := ⟨h28, h39.1, h39.2⟩
            rw [show rtMR F nr ns (nI i) (nI k) (nI j) w = if w = 0 then nI (rtC (rgM F j i) (rgM F j k)) else rtF (rgM F j i) (rgM F j k) by unfold rtMR; rw [if_pos hc9, if_pos hq, ei, ej, ek]]
            have tail : ∀ R O : Bool, rgM F j i = R → rgM F j k = O → WP x 8 wM d (QI x wM d (if w = 0 then nI (rtC R O) else rtF R O) F L) 45 [some (.ref 0), some (.int (nI i)), some (.int (nI k)), some (.int (nI j)), some (.int w), none, none, none] [] F L := by
              intro R O hR hO
              cases R <;> cases O
              · refine WP.iconst (pc := 45) hC dX6_rests_45 0 (by decide) ?_
                refine WP.is (lv' := [_, _, _, _, _, _, _, _]) (pc := 46) hC dX6_rests_46 rfl (by decide) rfl ?_
                refine WP.bipush (pc := 48) hC dX6_rests_48 (-9) (by decide) ?_
                refine WP.is (lv' := [_, _, _, _, _, _, _, _]) (pc := 50) hC dX6_rests_50 rfl (by decide) rfl ?_
                refine WP.iconst (pc := 52) hC dX6_rests_52 0 (by decide) ?_
                refine WP.is (lv' := [_, _, _, _, _, _, _, _]) (pc := 53) hC dX6_rests_53 rfl (by decide) rfl ?_
                refine WP.il (pc := 55) hC dX6_rests_55 rfl ?_
                refine WP.iconst (pc := 57) hC dX6_rests_57 4 (by decide) ?_
                refine WP.icge (pc := 58) hC dX6_rests_58 112 (by decide) (fun h58 => absurd h58 (by decide)) (fun h58 => ?_)
                refine WP.aln (pc := 61) hC dX6_rests_61 rfl ?_
                refine WP.iln (pc := 62) hC dX6_rests_62 rfl ?_
                refine WP.iln (pc := 63) hC dX6_rests_63 rfl ?_
                refine WP.iln (pc := 64) hC dX6_rests_64 rfl ?_
                refine WP.il (pc := 65) hC dX6_rests_65 rfl ?_
                refine WP.iconst (pc := 67) hC dX6_rests_67 2 (by decide) ?_
                refine WP.idiv (pc := 68) hC dX6_rests_68 (by decide) ?_
                refine WP.il (pc := 69) hC dX6_rests_69 rfl ?_
                refine WP.iconst (pc := 71) hC dX6_rests_71 2 (by decide) ?_
                refine WP.irem (pc := 72) hC dX6_rests_72 (by decide) ?_
                change WP _ _ _ _ _ _ _ (.int (b2 false) :: .int (b2 false) :: _) _ _
                refine WP.callVI (pc := 73) hC dX6_rests_73 (k_X6_isRest _ F L i k j false false (by omega) (by omega) (by omega)) ml_X6_186 rfl rfl (by decide) rfl (Nat.le_of_ble_eq_true rfl) ⟨by decide, by decide⟩ ?_
                rw [hR, hO]
                refine WP.ifeq (pc := 76) hC dX6_rests_76 106 (by decide) (fun h76 => absurd h76 (by decide)) (fun h76 => ?_)
                refine WP.il (pc := 79) hC dX6_rests_79 rfl ?_
                refine WP.ifne (pc := 81) hC dX6_rests_81 99 (by decide) (fun h81 => absurd h81 (by decide)) (fun h81 => ?_)
                refine WP.bipush (pc := 84) hC dX6_rests_84 10 (by decide) ?_
                refine WP.il (pc := 86) hC dX6_rests_86 rfl ?_
                refine WP.iconst (pc := 88) hC dX6_rests_88 2 (by decide) ?_
                refine WP.idiv (pc := 89) hC dX6_rests_89 (by decide) ?_
                refine WP.imul (pc := 90) hC dX6_rests_90 ?_
                refine WP.il (pc := 91) hC dX6_rests_91 rfl ?_
                refine WP.iconst (pc := 93) hC dX6_rests_93 2 (by decide) ?_
                refine WP.irem (pc := 94) hC dX6_rests_94 (by decide) ?_
                refine WP.iadd (pc := 95) hC dX6_rests_95 ?_
                refine WP.goto (pc := 96) hC dX6_rests_96 101 (by decide) ?_
                refine WP.is (lv' := [_, _, _, _, _, _, _, _]) (pc := 101) hC dX6_rests_101 rfl (by decide) rfl ?_
                refine WP.iinc (lv' := [_, _, _, _, _, _, _, _]) (pc := 103) hC dX6_rests_103 rfl (_ + 1) rfl rfl (by decide) rfl ?_
                refine WP.iinc (lv' := [_, _, _, _, _, _, _, _]) (pc := 106) hC dX6_rests_106 rfl (_ + 1) rfl rfl (by decide) rfl ?_
                refine WP.goto (pc := 109) hC dX6_rests_109 55 (by decide) ?_
                refine WP.il (pc := 55) hC dX6_rests_55 rfl ?_
                refine WP.iconst (pc := 57) hC dX6_rests_57 4 (by decide) ?_
                refine WP.icge (pc := 58) hC dX6_rests_58 112 (by decide) (fun h58 => absurd h58 (by decide)) (fun h58 => ?_)
                refine WP.aln (pc := 61) hC dX6_rests_61 rfl ?_
                refine WP.iln (pc := 62) hC dX6_rests_62 rfl ?_
                refine WP.iln (pc := 63) hC dX6_rests_63 rfl ?_
                refine WP.iln (pc := 64) hC dX6_rests_64 rfl ?_
                refine WP.il (pc := 65) hC dX6_rests_65 rfl ?_
                refine WP.iconst (pc := 67) hC dX6_rests_67 2 (by decide) ?_
                refine WP.idiv (pc := 68) hC dX6_rests_68 (by decide) ?_
                refine WP.il (pc := 69) hC dX6_rests_69 rfl ?_
                refine WP.iconst (pc := 71) hC dX6_rests_71 2 (by decide) ?_
                refine WP.irem (pc := 72) hC dX6_rests_72 (by decide) ?_
                change WP _ _ _ _ _ _ _ (.int (b2 true) :: .int (b2 false) :: _) _ _
                refine WP.callVI (pc := 73) hC dX6_rests_73 (k_X6_isRest _ F L i k j false true (by omega) (by omega) (by omega)) ml_X6_186 rfl rfl (by decide) rfl (Nat.le_of_ble_eq_true rfl) ⟨by decide, by decide⟩ ?_
                rw [hR, hO]
                refine WP.ifeq (pc := 76) hC dX6_rests_76 106 (by decide) (fun h76 => ?_) (fun h76 => absurd h76 (by decide))
                refine WP.iinc (lv' := [_, _, _, _, _, _, _, _]) (pc := 106) hC dX6_rests_106 rfl (_ + 1) rfl rfl (by decide) rfl ?_
                refine WP.goto (pc := 109) hC dX6_rests_109 55 (by decide) ?_
                refine WP.il (pc := 55) hC dX6_rests_55 rfl ?_
                refine WP.iconst (pc := 57) hC dX6_rests_57 4 (by decide) ?_
                refine WP.icge (pc := 58) hC dX6_rests_58 112 (by decide) (fun h58 => absurd h58 (by decide)) (fun h58 => ?_)
                refine WP.aln (pc := 61) hC dX6_rests_61 rfl ?_
                refine WP.iln (pc := 62) hC dX6_rests_62 rfl ?_
                refine WP.iln (pc := 63) hC dX6_rests_63 rfl ?_
                refine WP.iln (pc := 64) hC dX6_rests_64 rfl ?_
                refine WP.il (pc := 65) hC dX6_rests_65 rfl ?_
                refine WP.iconst (pc := 67) hC dX6_rests_67 2 (by decide) ?_
                refine WP.idiv (pc := 68) hC dX6_rests_68 (by decide) ?_
                refine WP.il (pc := 69) hC dX6_rests_69 rfl ?_
                refine WP.iconst (pc := 71) hC dX6_rests_71 2 (by decide) ?_
                refine WP.irem (pc := 72) hC dX6_rests_72 (by decide) ?_
                change WP _ _ _ _ _ _ _ (.int (b2 false) :: .int (b2 true) :: _) _ _
                refine WP.callVI (pc := 73) hC dX6_rests_73 (k_X6_isRest _ F L i k j true false (by omega) (by omega) (by omega)) ml_X6_186 rfl rfl (by decide) rfl (Nat.le_of_ble_eq_true rfl) ⟨by decide, by decide⟩ ?_
                rw [hR, hO]
                refine WP.ifeq (pc := 76) hC dX6_rests_76 106 (by decide) (fun h76 => ?_) (fun h76 => absurd h76 (by decide))
                refine WP.iinc (lv' := [_, _, _, _, _, _, _, _]) (pc := 106) hC dX6_rests_106 rfl (_ + 1) rfl rfl (by decide) rfl ?_
                refine WP.goto (pc := 109) hC dX6_rests_109 55 (by decide) ?_
                refine WP.il (pc := 55) hC dX6_rests_55 rfl ?_
                refine WP.iconst (pc := 57) hC dX6_rests_57 4 (by decide) ?_
                refine WP.icge (pc := 58) hC dX6_rests_58 112 (by decide) (fun h58 => absurd h58 (by decide)) (fun h58 => ?_)
                refine WP.aln (pc := 61) hC dX6_rests_61 rfl ?_
                refine WP.iln (pc := 62) hC dX6_rests_62 rfl ?_
                refine WP.iln (pc := 63) hC dX6_rests_63 rfl ?_
                refine WP.iln (pc := 64) hC dX6_rests_64 rfl ?_
                refine WP.il (pc := 65) hC dX6_rests_65 rfl ?_
                refine WP.iconst (pc := 67) hC dX6_rests_67 2 (by decide) ?_
                refine WP.idiv (pc := 68) hC dX6_rests_68 (by decide) ?_
                refine WP.il (pc := 69) hC dX6_rests_69 rfl ?_
                refine WP.iconst (pc := 71) hC dX6_rests_71 2 (by decide) ?_
                refine WP.irem (pc := 72) hC dX6_rests_72 (by decide) ?_
                change WP _ _ _ _ _ _ _ (.int (b2 true) :: .int (b2 true) :: _) _ _
                refine WP.callVI (pc := 73) hC dX6_rests_73 (k_X6_isRest _ F L i k j true true (by omega) (by omega) (by omega)) ml_X6_186 rfl rfl (by decide) rfl (Nat.le_of_ble_eq_true rfl) ⟨by decide, by decide⟩ ?_
                rw [hR, hO]
                refine WP.ifeq (pc := 76) hC dX6_rests_76 106 (by decide) (fun h76 => absurd h76 (by decide)) (fun h76 => ?_)
                refine WP.il (pc := 79) hC dX6_rests_79 rfl ?_
                refine WP.ifne (pc := 81) hC dX6_rests_81 99 (by decide) (fun h81 => ?_) (fun h81 => absurd h81 (by decide))
                refine WP.il (pc := 99) hC dX6_rests_99 rfl ?_
                refine WP.is (lv' := [_, _, _, _, _, _, _, _]) (pc := 101) hC dX6_rests_101 rfl (by decide) rfl ?_
                refine WP.iinc (lv' := [_, _, _, _, _, _, _, _]) (pc := 103) hC dX6_rests_103 rfl (_ + 1) rfl rfl (by decide) rfl ?_
                refine WP.iinc (lv' := [_, _, _, _, _, _, _, _]) (pc := 106) hC dX6_rests_106 rfl (_ + 1) rfl rfl (by decide) rfl ?_
                refine WP.goto (pc := 109) hC dX6_rests_109 55 (by decide) ?_
                refine WP.il (pc := 55) hC dX6_rests_55 rfl ?_
                refine WP.iconst (pc := 57) hC dX6_rests_57 4 (by decide) ?_
                refine WP.icge (pc := 58) hC dX6_rests_58 112 (by decide) (fun h58 => ?_) (fun h58 => absurd h58 (by decide))
                refine WP.il (pc := 112) hC dX6_rests_112 rfl ?_
                refine WP.ifne (pc := 114) hC dX6_rests_114 122 (by decide) (fun h114 => ?_) (fun h114 => ?_)
                · refine WP.il (pc := 122) hC dX6_rests_122 rfl ?_
                  refine WP.iret (pc := 124) hC rfl dX6_rests_124 ?_ ?_ ?_
                  all_goals (first | rfl | (rw [if_pos h114]; decide) | (rw [if_neg h114]; decide))
                · refine WP.il (pc := 117) hC dX6_rests_117 rfl ?_
                  refine WP.goto (pc := 119) hC dX6_rests_119 124 (by decide) ?_
                  refine WP.iret (pc := 124) hC rfl dX6_rests_124 ?_ ?_ ?_
                  all_goals (first | rfl | (rw [if_pos h114]; decide) | (rw [if_neg h114]; decide))
              · refine WP.iconst (pc := 45) hC dX6_rests_45 0 (by decide) ?_
                refine WP.is (lv' := [_, _, _, _, _, _, _, _]) (pc := 46) hC dX6_rests_46 rfl (by decide) rfl ?_
                refine WP.bipush (pc := 48) hC dX6_rests_48 (-9) (by decide) ?_
                refine WP.is (lv' := [_, _, _, _, _, _, _, _]) (pc := 50) hC dX6_rests_50 rfl (by decide) rfl ?_
                refine WP.iconst (pc := 52) hC dX6_rests_52 0 (by decide) ?_
                refine WP.is (lv' := [_, _, _, _, _, _, _, _]) (pc := 53) hC dX6_rests_53 rfl (by decide) rfl ?_
                refine WP.il (pc := 55) hC dX6_rests_55 rfl ?_
                refine WP.iconst (pc := 57) hC dX6_rests_57 4 (by decide) ?_
                refine WP.icge (pc := 58) hC dX6_rests_58 112 (by decide) (fun h58 => absurd h58 (by decide)) (fun h58 => ?_)
                refine WP.aln (pc := 61) hC dX6_rests_61 rfl ?_
                refine WP.iln (pc := 62) hC dX6_rests_62 rfl ?_
                refine WP.iln (pc := 63) hC dX6_rests_63 rfl ?_
                refine WP.iln (pc := 64) hC dX6_rests_64 rfl ?_
                refine WP.il (pc := 65) hC dX6_rests_65 rfl ?_
                refine WP.iconst (pc := 67) hC dX6_rests_67 2 (by decide) ?_
                refine WP.idiv (pc := 68) hC dX6_rests_68 (by decide) ?_
                refine WP.il (pc := 69) hC dX6_rests_69 rfl ?_
                refine WP.iconst (pc := 71) hC dX6_rests_71 2 (by decide) ?_
                refine WP.irem (pc := 72) hC dX6_rests_72 (by decide) ?_
                change WP _ _ _ _ _ _ _ (.int (b2 false) :: .int (b2 false) :: _) _ _
                refine WP.callVI (pc := 73) hC dX6_rests_73 (k_X6_isRest _ F L i k j false false (by omega) (by omega) (by omega)) ml_X6_186 rfl rfl (by decide) rfl (Nat.le_of_ble_eq_true rfl) ⟨by decide, by decide⟩ ?_
                rw [hR, hO]
                refine WP.ifeq (pc := 76) hC dX6_rests_76 106 (by decide) (fun h76 => ?_) (fun h76 => absurd h76 (by decide))
                refine WP.iinc (lv' := [_, _, _, _, _, _, _, _]) (pc := 106) hC dX6_rests_106 rfl (_ + 1) rfl rfl (by decide) rfl ?_
                refine WP.goto (pc := 109) hC dX6_rests_109 55 (by decide) ?_
                refine WP.il (pc := 55) hC dX6_rests_55 rfl ?_
                refine WP.iconst (pc := 57) hC dX6_rests_57 4 (by decide) ?_
                refine WP.icge (pc := 58) hC dX6_rests_58 112 (by decide) (fun h58 => absurd h58 (by decide)) (fun h58 => ?_)
                refine WP.aln (pc := 61) hC dX6_rests_61 rfl ?_
                refine WP.iln (pc := 62) hC dX6_rests_62 rfl ?_
                refine WP.iln (pc := 63) hC dX6_rests_63 rfl ?_
                refine WP.iln (pc := 64) hC dX6_rests_64 rfl ?_
                refine WP.il (pc := 65) hC dX6_rests_65 rfl ?_
                refine WP.iconst (pc := 67) hC dX6_rests_67 2 (by decide) ?_
                refine WP.idiv (pc := 68) hC dX6_rests_68 (by decide) ?_
                refine WP.il (pc := 69) hC dX6_rests_69 rfl ?_
                refine WP.iconst (pc := 71) hC dX6_rests_71 2 (by decide) ?_
                refine WP.irem (pc := 72) hC dX6_rests_72 (by decide) ?_
                change WP _ _ _ _ _ _ _ (.int (b2 true) :: .int (b2 false) :: _) _ _
                refine WP.callVI (pc := 73) hC dX6_rests_73 (k_X6_isRest _ F L i k j false true (by omega) (by omega) (by omega)) ml_X6_186 rfl rfl (by decide) rfl (Nat.le_of_ble_eq_true rfl) ⟨by decide, by decide⟩ ?_
                rw [hR, hO]
                refine WP.ifeq (pc := 76) hC dX6_rests_76 106 (by decide) (fun h76 => absurd h76 (by decide)) (fun h76 => ?_)
                refine WP.il (pc := 79) hC dX6_rests_79 rfl ?_
                refine WP.ifne (pc := 81) hC dX6_rests_81 99 (by decide) (fun h81 => absurd h81 (by decide)) (fun h81 => ?_)
                refine WP.bipush (pc := 84) hC dX6_rests_84 10 (by decide) ?_
                refine WP.il (pc := 86) hC dX6_rests_86 rfl ?_
                refine WP.iconst (pc := 88) hC dX6_rests_88 2 (by decide) ?_
                refine WP.idiv (pc := 89) hC dX6_rests_89 (by decide) ?_
                refine WP.imul (pc := 90) hC dX6_rests_90 ?_
                refine WP.il (pc := 91) hC dX6_rests_91 rfl ?_
                refine WP.iconst (pc := 93) hC dX6_rests_93 2 (by decide) ?_
                refine WP.irem (pc := 94) hC dX6_rests_94 (by decide) ?_
                refine WP.iadd (pc := 95) hC dX6_rests_95 ?_
                refine WP.goto (pc := 96) hC dX6_rests_96 101 (by decide) ?_
                refine WP.is (lv' := [_, _, _, _, _, _, _, _]) (pc := 101) hC dX6_rests_101 rfl (by decide) rfl ?_
                refine WP.iinc (lv' := [_, _, _, _, _, _, _, _]) (pc := 103) hC dX6_rests_103 rfl (_ + 1) rfl rfl (by decide) rfl ?_
                refine WP.iinc (lv' := [_, _, _, _, _, _, _, _]) (pc := 106) hC dX6_rests_106 rfl (_ + 1) rfl rfl (by decide) rfl ?_
                refine WP.goto (pc := 109) hC dX6_rests_109 55 (by decide) ?_
                refine WP.il (pc := 55) hC dX6_rests_55 rfl ?_
                refine WP.iconst (pc := 57) hC dX6_rests_57 4 (by decide) ?_
                refine WP.icge (pc := 58) hC dX6_rests_58 112 (by decide) (fun h58 => absurd h58 (by decide)) (fun h58 => ?_)
                refine WP.aln (pc := 61) hC dX6_rests_61 rfl ?_
                refine WP.iln (pc := 62) hC dX6_rests_62 rfl ?_
                refine WP.iln (pc := 63) hC dX6_rests_63 rfl ?_
                refine WP.iln (pc := 64) hC dX6_rests_64 rfl ?_
                refine WP.il (pc := 65) hC dX6_rests_65 rfl ?_
                refine WP.iconst (pc := 67) hC dX6_rests_67 2 (by decide) ?_
                refine WP.idiv (pc := 68) hC dX6_rests_68 (by decide) ?_
                refine WP.il (pc := 69) hC dX6_rests_69 rfl ?_
                refine WP.iconst (pc := 71) hC dX6_rests_71 2 (by decide) ?_
                refine WP.irem (pc := 72) hC dX6_rests_72 (by decide) ?_
                change WP _ _ _ _ _ _ _ (.int (b2 false) :: .int (b2 true) :: _) _ _
                refine WP.callVI (pc := 73) hC dX6_rests_73 (k_X6_isRest _ F L i k j true false (by omega) (by omega) (by omega)) ml_X6_186 rfl rfl (by decide) rfl (Nat.le_of_ble_eq_true rfl) ⟨by decide, by decide⟩ ?_
                rw [hR, hO]
                refine WP.ifeq (pc := 76) hC dX6_rests_76 106 (by decide) (fun h76 => ?_) (fun h76 => absurd h76 (by decide))
                refine WP.iinc (lv' := [_, _, _, _, _, _, _, _]) (pc := 106) hC dX6_rests_106 rfl (_ + 1) rfl rfl (by decide) rfl ?_
                refine WP.goto (pc := 109) hC dX6_rests_109 55 (by decide) ?_
                refine WP.il (pc := 55) hC dX6_rests_55 rfl ?_
                refine WP.iconst (pc := 57) hC dX6_rests_57 4 (by decide) ?_
                refine WP.icge (pc := 58) hC dX6_rests_58 112 (by decide) (fun h58 => absurd h58 (by decide)) (fun h58 => ?_)
                refine WP.aln (pc := 61) hC dX6_rests_61 rfl ?_
                refine WP.iln (pc := 62) hC dX6_rests_62 rfl ?_
                refine WP.iln (pc := 63) hC dX6_rests_63 rfl ?_
                refine WP.iln (pc := 64) hC dX6_rests_64 rfl ?_
                refine WP.il (pc := 65) hC dX6_rests_65 rfl ?_
                refine WP.iconst (pc := 67) hC dX6_rests_67 2 (by decide) ?_
                refine WP.idiv (pc := 68) hC dX6_rests_68 (by decide) ?_
                refine WP.il (pc := 69) hC dX6_rests_69 rfl ?_
                refine WP.iconst (pc := 71) hC dX6_rests_71 2 (by decide) ?_
                refine WP.irem (pc := 72) hC dX6_rests_72 (by decide) ?_
                change WP _ _ _ _ _ _ _ (.int (b2 true) :: .int (b2 true) :: _) _ _
                refine WP.callVI (pc := 73) hC dX6_rests_73 (k_X6_isRest _ F L i k j true true (by omega) (by omega) (by omega)) ml_X6_186 rfl rfl (by decide) rfl (Nat.le_of_ble_eq_true rfl) ⟨by decide, by decide⟩ ?_
                rw [hR, hO]
                refine WP.ifeq (pc := 76) hC dX6_rests_76 106 (by decide) (fun h76 => ?_) (fun h76 => absurd h76 (by decide))
                refine WP.iinc (lv' := [_, _, _, _, _, _, _, _]) (pc := 106) hC dX6_rests_106 rfl (_ + 1) rfl rfl (by decide) rfl ?_
                refine WP.goto (pc := 109) hC dX6_rests_109 55 (by decide) ?_
                refine WP.il (pc := 55) hC dX6_rests_55 rfl ?_
                refine WP.iconst (pc := 57) hC dX6_rests_57 4 (by decide) ?_
                refine WP.icge (pc := 58) hC dX6_rests_58 112 (by decide) (fun h58 => ?_) (fun h58 => absurd h58 (by decide))
                refine WP.il (pc := 112) hC dX6_rests_112 rfl ?_
                refine WP.ifne (pc := 114) hC dX6_rests_114 122 (by decide) (fun h114 => ?_) (fun h114 => ?_)
                · refine WP.il (pc := 122) hC dX6_rests_122 rfl ?_
                  refine WP.iret (pc := 124) hC rfl dX6_rests_124 ?_ ?_ ?_
                  all_goals (first | rfl | (rw [if_pos h114]; decide) | (rw [if_neg h114]; decide))
                · refine WP.il (pc := 117) hC dX6_rests_117 rfl ?_
                  refine WP.goto (pc := 119) hC dX6_rests_119 124 (by decide) ?_
                  refine WP.iret (pc := 124) hC rfl dX6_rests_124 ?_ ?_ ?_
                  all_goals (first | rfl | (rw [if_pos h114]; decide) | (rw [if_neg h114]; decide))
              · refine WP.iconst (pc := 45) hC dX6_rests_45 0 (by decide) ?_
                refine WP.is (lv' := [_, _, _, _, _, _, _, _]) (pc := 46) hC dX6_rests_46 rfl (by decide) rfl ?_
                refine WP.bipush (pc := 48) hC dX6_rests_48 (-9) (by decide) ?_
                refine WP.is (lv' := [_, _, _, _, _, _, _, _]) (pc := 50) hC dX6_rests_50 rfl (by decide) rfl ?_
                refine WP.iconst (pc := 52) hC dX6_rests_52 0 (by decide) ?_
                refine WP.is (lv' := [_, _, _, _, _, _, _, _]) (pc := 53) hC dX6_rests_53 rfl (by decide) rfl ?_
                refine WP.il (pc := 55) hC dX6_rests_55 rfl ?_
                refine WP.iconst (pc := 57) hC dX6_rests_57 4 (by decide) ?_
                refine WP.icge (pc := 58) hC dX6_rests_58 112 (by decide) (fun h58 => absurd h58 (by decide)) (fun h58 => ?_)
                refine WP.aln (pc := 61) hC dX6_rests_61 rfl ?_
                refine WP.iln (pc := 62) hC dX6_rests_62 rfl ?_
                refine WP.iln (pc := 63) hC dX6_rests_63 rfl ?_
                refine WP.iln (pc := 64) hC dX6_rests_64 rfl ?_
                refine WP.il (pc := 65) hC dX6_rests_65 rfl ?_
                refine WP.iconst (pc := 67) hC dX6_rests_67 2 (by decide) ?_
                refine WP.idiv (pc := 68) hC dX6_rests_68 (by decide) ?_
                refine WP.il (pc := 69) hC dX6_rests_69 rfl ?_
                refine WP.iconst (pc := 71) hC dX6_rests_71 2 (by decide) ?_
                refine WP.irem (pc := 72) hC dX6_rests_72 (by decide) ?_
                change WP _ _ _ _ _ _ _ (.int (b2 false) :: .int (b2 false) :: _) _ _
                refine WP.callVI (pc := 73) hC dX6_rests_73 (k_X6_isRest _ F L i k j false false (by omega) (by omega) (by omega)) ml_X6_186 rfl rfl (by decide) rfl (Nat.le_of_ble_eq_true rfl) ⟨by decide, by decide⟩ ?_
                rw [hR, hO]
                refine WP.ifeq (pc := 76) hC dX6_rests_76 106 (by decide) (fun h76 => ?_) (fun h76 => absurd h76 (by decide))
                refine WP.iinc (lv' := [_, _, _, _, _, _, _, _]) (pc := 106) hC dX6_rests_106 rfl (_ + 1) rfl rfl (by decide) rfl ?_
                refine WP.goto (pc := 109) hC dX6_rests_109 55 (by decide) ?_
                refine WP.il (pc := 55) hC dX6_rests_55 rfl ?_
                refine WP.iconst (pc := 57) hC dX6_rests_57 4 (by decide) ?_
                refine WP.icge (pc := 58) hC dX6_rests_58 112 (by decide) (fun h58 => absurd h58 (by decide)) (fun h58 => ?_)
                refine WP.aln (pc := 61) hC dX6_rests_61 rfl ?_
                refine WP.iln (pc := 62) hC dX6_rests_62 rfl ?_
                refine WP.iln (pc := 63) hC dX6_rests_63 rfl ?_
                refine WP.iln (pc := 64) hC dX6_rests_64 rfl ?_
                refine WP.il (pc := 65) hC dX6_rests_65 rfl ?_
                refine WP.iconst (pc := 67) hC dX6_rests_67 2 (by decide) ?_
                refine WP.idiv (pc := 68) hC dX6_rests_68 (by decide) ?_
                refine WP.il (pc := 69) hC dX6_rests_69 rfl ?_
                refine WP.iconst (pc := 71) hC dX6_rests_71 2 (by decide) ?_
                refine WP.irem (pc := 72) hC dX6_rests_72 (by decide) ?_
                change WP _ _ _ _ _ _ _ (.int (b2 true) :: .int (b2 false) :: _) _ _
                refine WP.callVI (pc := 73) hC dX6_rests_73 (k_X6_isRest _ F L i k j false true (by omega) (by omega) (by omega)) ml_X6_186 rfl rfl (by decide) rfl (Nat.le_of_ble_eq_true rfl) ⟨by decide, by decide⟩ ?_
                rw [hR, hO]
                refine WP.ifeq (pc := 76) hC dX6_rests_76 106 (by decide) (fun h76 => ?_) (fun h76 => absurd h76 (by decide))
                refine WP.iinc (lv' := [_, _, _, _, _, _, _, _]) (pc := 106) hC dX6_rests_106 rfl (_ + 1) rfl rfl (by decide) rfl ?_
                refine WP.goto (pc := 109) hC dX6_rests_109 55 (by decide) ?_
                refine WP.il (pc := 55) hC dX6_rests_55 rfl ?_
                refine WP.iconst (pc := 57) hC dX6_rests_57 4 (by decide) ?_
                refine WP.icge (pc := 58) hC dX6_rests_58 112 (by decide) (fun h58 => absurd h58 (by decide)) (fun h58 => ?_)
                refine WP.aln (pc := 61) hC dX6_rests_61 rfl ?_
                refine WP.iln (pc := 62) hC dX6_rests_62 rfl ?_
                refine WP.iln (pc := 63) hC dX6_rests_63 rfl ?_
                refine WP.iln (pc := 64) hC dX6_rests_64 rfl ?_
                refine WP.il (pc := 65) hC dX6_rests_65 rfl ?_
                refine WP.iconst (pc := 67) hC dX6_rests_67 2 (by decide) ?_
                refine WP.idiv (pc := 68) hC dX6_rests_68 (by decide) ?_
                refine WP.il (pc := 69) hC dX6_rests_69 rfl ?_
                refine WP.iconst (pc := 71) hC dX6_rests_71 2 (by decide) ?_
                refine WP.irem (pc := 72) hC dX6_rests_72 (by decide) ?_
                change WP _ _ _ _ _ _ _ (.int (b2 false) :: .int (b2 true) :: _) _ _
                refine WP.callVI (pc := 73) hC dX6_rests_73 (k_X6_isRest _ F L i k j true false (by omega) (by omega) (by omega)) ml_X6_186 rfl rfl (by decide) rfl (Nat.le_of_ble_eq_true rfl) ⟨by decide, by decide⟩ ?_
                rw [hR, hO]
                refine WP.ifeq (pc := 76) hC dX6_rests_76 106 (by decide) (fun h76 => absurd h76 (by decide)) (fun h76 => ?_)
                refine WP.il (pc := 79) hC dX6_rests_79 rfl ?_
                refine WP.ifne (pc := 81) hC dX6_rests_81 99 (by decide) (fun h81 => absurd h81 (by decide)) (fun h81 => ?_)
                refine WP.bipush (pc := 84) hC dX6_rests_84 10 (by decide) ?_
                refine WP.il (pc := 86) hC dX6_rests_86 rfl ?_
                refine WP.iconst (pc := 88) hC dX6_rests_88 2 (by decide) ?_
                refine WP.idiv (pc := 89) hC dX6_rests_89 (by decide) ?_
                refine WP.imul (pc := 90) hC dX6_rests_90 ?_
                refine WP.il (pc := 91) hC dX6_rests_91 rfl ?_
                refine WP.iconst (pc := 93) hC dX6_rests_93 2 (by decide) ?_
                refine WP.irem (pc := 94) hC dX6_rests_94 (by decide) ?_
                refine WP.iadd (pc := 95) hC dX6_rests_95 ?_
                refine WP.goto (pc := 96) hC dX6_rests_96 101 (by decide) ?_
                refine WP.is (lv' := [_, _, _, _, _, _, _, _]) (pc := 101) hC dX6_rests_101 rfl (by decide) rfl ?_
                refine WP.iinc (lv' := [_, _, _, _, _, _, _, _]) (pc := 103) hC dX6_rests_103 rfl (_ + 1) rfl rfl (by decide) rfl ?_
                refine WP.iinc (lv' := [_, _, _, _, _, _, _, _]) (pc := 106) hC dX6_rests_106 rfl (_ + 1) rfl rfl (by decide) rfl ?_
                refine WP.goto (pc := 109) hC dX6_rests_109 55 (by decide) ?_
                refine WP.il (pc := 55) hC dX6_rests_55 rfl ?_
                refine WP.iconst (pc := 57) hC dX6_rests_57 4 (by decide) ?_
                refine WP.icge (pc := 58) hC dX6_rests_58 112 (by decide) (fun h58 => absurd h58 (by decide)) (fun h58 => ?_)
                refine WP.aln (pc := 61) hC dX6_rests_61 rfl ?_
                refine WP.iln (pc := 62) hC dX6_rests_62 rfl ?_
                refine WP.iln (pc := 63) hC dX6_rests_63 rfl ?_
                refine WP.iln (pc := 64) hC dX6_rests_64 rfl ?_
                refine WP.il (pc := 65) hC dX6_rests_65 rfl ?_
                refine WP.iconst (pc := 67) hC dX6_rests_67 2 (by decide) ?_
                refine WP.idiv (pc := 68) hC dX6_rests_68 (by decide) ?_
                refine WP.il (pc := 69) hC dX6_rests_69 rfl ?_
                refine WP.iconst (pc := 71) hC dX6_rests_71 2 (by decide) ?_
                refine WP.irem (pc := 72) hC dX6_rests_72 (by decide) ?_
                change WP _ _ _ _ _ _ _ (.int (b2 true) :: .int (b2 true) :: _) _ _
                refine WP.callVI (pc := 73) hC dX6_rests_73 (k_X6_isRest _ F L i k j true true (by omega) (by omega) (by omega)) ml_X6_186 rfl rfl (by decide) rfl (Nat.le_of_ble_eq_true rfl) ⟨by decide, by decide⟩ ?_
                rw [hR, hO]
                refine WP.ifeq (pc := 76) hC dX6_rests_76 106 (by decide) (fun h76 => ?_) (fun h76 => absurd h76 (by decide))
                refine WP.iinc (lv' := [_, _, _, _, _, _, _, _]) (pc := 106) hC dX6_rests_106 rfl (_ + 1) rfl rfl (by decide) rfl ?_
                refine WP.goto (pc := 109) hC dX6_rests_109 55 (by decide) ?_
                refine WP.il (pc := 55) hC dX6_rests_55 rfl ?_
                refine WP.iconst (pc := 57) hC dX6_rests_57 4 (by decide) ?_
                refine WP.icge (pc := 58) hC dX6_rests_58 112 (by decide) (fun h58 => ?_) (fun h58 => absurd h58 (by decide))
                refine WP.il (pc := 112) hC dX6_rests_112 rfl ?_
                refine WP.ifne (pc := 114) hC dX6_rests_114 122 (by decide) (fun h114 => ?_) (fun h114 => ?_)
                · refine WP.il (pc := 122) hC dX6_rests_122 rfl ?_
                  refine WP.iret (pc := 124) hC rfl dX6_rests_124 ?_ ?_ ?_
                  all_goals (first | rfl | (rw [if_pos h114]; decide) | (rw [if_neg h114]; decide))
                · refine WP.il (pc := 117) hC dX6_rests_117 rfl ?_
                  refine WP.goto (pc := 119) hC dX6_rests_119 124 (by decide) ?_
                  refine WP.iret (pc := 124) hC rfl dX6_rests_124 ?_ ?_ ?_
                  all_goals (first | rfl | (rw [if_pos h114]; decide) | (rw [if_neg h114]; decide))
              · refine WP.iconst (pc := 45) hC dX6_rests_45 0 (by decide) ?_
                refine WP.is (lv' := [_, _, _, _, _, _, _, _]) (pc := 46) hC dX6_rests_46 rfl (by decide) rfl ?_
                refine WP.bipush (pc := 48) hC dX6_rests_48 (-9) (by decide) ?_
                refine WP.is (lv' := [_, _, _, _, _, _, _, _]) (pc := 50) hC dX6_rests_50 rfl (by decide) rfl ?_
                refine WP.iconst (pc := 52) hC dX6_rests_52 0 (by decide) ?_
                refine WP.is (lv' := [_, _, _, _, _, _, _, _]) (pc := 53) hC dX6_rests_53 rfl (by decide) rfl ?_
                refine WP.il (pc := 55) hC dX6_rests_55 rfl ?_
                refine WP.iconst (pc := 57) hC dX6_rests_57 4 (by decide) ?_
                refine WP.icge (pc := 58) hC dX6_rests_58 112 (by decide) (fun h58 => absurd h58 (by decide)) (fun h58 => ?_)
                refine WP.aln (pc := 61) hC dX6_rests_61 rfl ?_
                refine WP.iln (pc := 62) hC dX6_rests_62 rfl ?_
                refine WP.iln (pc := 63) hC dX6_rests_63 rfl ?_
                refine WP.iln (pc := 64) hC dX6_rests_64 rfl ?_
                refine WP.il (pc := 65) hC dX6_rests_65 rfl ?_
                refine WP.iconst (pc := 67) hC dX6_rests_67 2 (by decide) ?_
                refine WP.idiv (pc := 68) hC dX6_rests_68 (by decide) ?_
                refine WP.il (pc := 69) hC dX6_rests_69 rfl ?_
                refine WP.iconst (pc := 71) hC dX6_rests_71 2 (by decide) ?_
                refine WP.irem (pc := 72) hC dX6_rests_72 (by decide) ?_
                change WP _ _ _ _ _ _ _ (.int (b2 false) :: .int (b2 false) :: _) _ _
                refine WP.callVI (pc := 73) hC dX6_rests_73 (k_X6_isRest _ F L i k j false false (by omega) (by omega) (by omega)) ml_X6_186 rfl rfl (by decide) rfl (Nat.le_of_ble_eq_true rfl) ⟨by decide, by decide⟩ ?_
                rw [hR, hO]
                refine WP.ifeq (pc := 76) hC dX6_rests_76 106 (by decide) (fun h76 => ?_) (fun h76 => absurd h76 (by decide))
                refine WP.iinc (lv' := [_, _, _, _, _, _, _, _]) (pc := 106) hC dX6_rests_106 rfl (_ + 1) rfl rfl (by decide) rfl ?_
                refine WP.goto (pc := 109) hC dX6_rests_109 55 (by decide) ?_
                refine WP.il (pc := 55) hC dX6_rests_55 rfl ?_
                refine WP.iconst (pc := 57) hC dX6_rests_57 4 (by decide) ?_
                refine WP.icge (pc := 58) hC dX6_rests_58 112 (by decide) (fun h58 => absurd h58 (by decide)) (fun h58 => ?_)
                refine WP.aln (pc := 61) hC dX6_rests_61 rfl ?_
                refine WP.iln (pc := 62) hC dX6_rests_62 rfl ?_
                refine WP.iln (pc := 63) hC dX6_rests_63 rfl ?_
                refine WP.iln (pc := 64) hC dX6_rests_64 rfl ?_
                refine WP.il (pc := 65) hC dX6_rests_65 rfl ?_
                refine WP.iconst (pc := 67) hC dX6_rests_67 2 (by decide) ?_
                refine WP.idiv (pc := 68) hC dX6_rests_68 (by decide) ?_
                refine WP.il (pc := 69) hC dX6_rests_69 rfl ?_
                refine WP.iconst (pc := 71) hC dX6_rests_71 2 (by decide) ?_
                refine WP.irem (pc := 72) hC dX6_rests_72 (by decide) ?_
                change WP _ _ _ _ _ _ _ (.int (b2 true) :: .int (b2 false) :: _) _ _
                refine WP.callVI (pc := 73) hC dX6_rests_73 (k_X6_isRest _ F L i k j false true (by omega) (by omega) (by omega)) ml_X6_186 rfl rfl (by decide) rfl (Nat.le_of_ble_eq_true rfl) ⟨by decide, by decide⟩ ?_
                rw [hR, hO]
                refine WP.ifeq (pc := 76) hC dX6_rests_76 106 (by decide) (fun h76 => ?_) (fun h76 => absurd h76 (by decide))
                refine WP.iinc (lv' := [_, _, _, _, _, _, _, _]) (pc := 106) hC dX6_rests_106 rfl (_ + 1) rfl rfl (by decide) rfl ?_
                refine WP.goto (pc := 109) hC dX6_rests_109 55 (by decide) ?_
                refine WP.il (pc := 55) hC dX6_rests_55 rfl ?_
                refine WP.iconst (pc := 57) hC dX6_rests_57 4 (by decide) ?_
                refine WP.icge (pc := 58) hC dX6_rests_58 112 (by decide) (fun h58 => absurd h58 (by decide)) (fun h58 => ?_)
                refine WP.aln (pc := 61) hC dX6_rests_61 rfl ?_
                refine WP.iln (pc := 62) hC dX6_rests_62 rfl ?_
                refine WP.iln (pc := 63) hC dX6_rests_63 rfl ?_
                refine WP.iln (pc := 64) hC dX6_rests_64 rfl ?_
                refine WP.il (pc := 65) hC dX6_rests_65 rfl ?_
                refine WP.iconst (pc := 67) hC dX6_rests_67 2 (by decide) ?_
                refine WP.idiv (pc := 68) hC dX6_rests_68 (by decide) ?_
                refine WP.il (pc := 69) hC dX6_rests_69 rfl ?_
                refine WP.iconst (pc := 71) hC dX6_rests_71 2 (by decide) ?_
                refine WP.irem (pc := 72) hC dX6_rests_72 (by decide) ?_
                change WP _ _ _ _ _ _ _ (.int (b2 false) :: .int (b2 true) :: _) _ _
                refine WP.callVI (pc := 73) hC dX6_rests_73 (k_X6_isRest _ F L i k j true false (by omega) (by omega) (by omega)) ml_X6_186 rfl rfl (by decide) rfl (Nat.le_of_ble_eq_true rfl) ⟨by decide, by decide⟩ ?_
                rw [hR, hO]
                refine WP.ifeq (pc := 76) hC dX6_rests_76 106 (by decide) (fun h76 => ?_) (fun h76 => absurd h76 (by decide))
                refine WP.iinc (lv' := [_, _, _, _, _, _, _, _]) (pc := 106) hC dX6_rests_106 rfl (_ + 1) rfl rfl (by decide) rfl ?_
                refine WP.goto (pc := 109) hC dX6_rests_109 55 (by decide) ?_
                refine WP.il (pc := 55) hC dX6_rests_55 rfl ?_
                refine WP.iconst (pc := 57) hC dX6_rests_57 4 (by decide) ?_
                refine WP.icge (pc := 58) hC dX6_rests_58 112 (by decide) (fun h58 => absurd h58 (by decide)) (fun h58 => ?_)
                refine WP.aln (pc := 61) hC dX6_rests_61 rfl ?_
                refine WP.iln (pc := 62) hC dX6_rests_62 rfl ?_
                refine WP.iln (pc := 63) hC dX6_rests_63 rfl ?_
                refine WP.iln (pc := 64) hC dX6_rests_64 rfl ?_
                refine WP.il (pc := 65) hC dX6_rests_65 rfl ?_
                refine WP.iconst (pc := 67) hC dX6_rests_67 2 (by decide) ?_
                refine WP.idiv (pc := 68) hC dX6_rests_68 (by decide) ?_
                refine WP.il (pc := 69) hC dX6_rests_69 rfl ?_
                refine WP.iconst (pc := 71) hC dX6_rests_71 2 (by decide) ?_
                refine WP.irem (pc := 72) hC dX6_rests_72 (by decide) ?_
                change WP _ _ _ _ _ _ _ (.int (b2 true) :: .int (b2 true) :: _) _ _
                refine WP.callVI (pc := 73) hC dX6_rests_73 (k_X6_isRest _ F L i k j true true (by omega) (by omega) (by omega)) ml_X6_186 rfl rfl (by decide) rfl (Nat.le_of_ble_eq_true rfl) ⟨by decide, by decide⟩ ?_
                rw [hR, hO]
                refine WP.ifeq (pc := 76) hC dX6_rests_76 106 (by decide) (fun h76 => absurd h76 (by decide)) (fun h76 => ?_)
                refine WP.il (pc := 79) hC dX6_rests_79 rfl ?_
                refine WP.ifne (pc := 81) hC dX6_rests_81 99 (by decide) (fun h81 => absurd h81 (by decide)) (fun h81 => ?_)
                refine WP.bipush (pc := 84) hC dX6_rests_84 10 (by decide) ?_
                refine WP.il (pc := 86) hC dX6_rests_86 rfl ?_
                refine WP.iconst (pc := 88) hC dX6_rests_88 2 (by decide) ?_
                refine WP.idiv (pc := 89) hC dX6_rests_89 (by decide) ?_
                refine WP.imul (pc := 90) hC dX6_rests_90 ?_
                refine WP.il (pc := 91) hC dX6_rests_91 rfl ?_
                refine WP.iconst (pc := 93) hC dX6_rests_93 2 (by decide) ?_
                refine WP.irem (pc := 94) hC dX6_rests_94 (by decide) ?_
                refine WP.iadd (pc := 95) hC dX6_rests_95 ?_
                refine WP.goto (pc := 96) hC dX6_rests_96 101 (by decide) ?_
                refine WP.is (lv' := [_, _, _, _, _, _, _, _]) (pc := 101) hC dX6_rests_101 rfl (by decide) rfl ?_
                refine WP.iinc (lv' := [_, _, _, _, _, _, _, _]) (pc := 103) hC dX6_rests_103 rfl (_ + 1) rfl rfl (by decide) rfl ?_
                refine WP.iinc (lv' := [_, _, _, _, _, _, _, _]) (pc := 106) hC dX6_rests_106 rfl (_ + 1) rfl rfl (by decide) rfl ?_
                refine WP.goto (pc := 109) hC dX6_rests_109 55 (by decide) ?_
                refine WP.il (pc := 55) hC dX6_rests_55 rfl ?_
                refine WP.iconst (pc := 57) hC dX6_rests_57 4 (by decide) ?_
                refine WP.icge (pc := 58) hC dX6_rests_58 112 (by decide) (fun h58 => ?_) (fun h58 => absurd h58 (by decide))
                refine WP.il (pc := 112) hC dX6_rests_112 rfl ?_
                refine WP.ifne (pc := 114) hC dX6_rests_114 122 (by decide) (fun h114 => ?_) (fun h114 => ?_)
                · refine WP.il (pc := 122) hC dX6_rests_122 rfl ?_
                  refine WP.iret (pc := 124) hC rfl dX6_rests_124 ?_ ?_ ?_
                  all_goals (first | rfl | (rw [if_pos h114]; decide) | (rw [if_neg h114]; decide))
                · refine WP.il (pc := 117) hC dX6_rests_117 rfl ?_
                  refine WP.goto (pc := 119) hC dX6_rests_119 124 (by decide) ?_
                  refine WP.iret (pc := 124) hC rfl dX6_rests_124 ?_ ?_ ?_
                  all_goals (first | rfl | (rw [if_pos h114]; decide) | (rw [if_neg h114]; decide))
            exact tail _ _ rfl rfl
          · refine WP.bipush (pc := 42) hC dX6_rests_42 (-2) (by decide) ?_
            refine WP.iret (pc := 44) hC rfl dX6_rests_44 ?_ ?_ ?_
            all_goals (first | rfl | (unfold rtMR; rw [if_pos hc9]; refine (if_neg ?_).symm; rintro ⟨q1, q2, q3⟩; first | exact q1 h28 | (rw [b2_0, Bool.and_eq_false_iff, decide_eq_false_iff_not, decide_eq_false_iff_not] at h39; rcases h39 with z | z; exact z q2; exact z q3)))
      · refine WP.iconst (pc := 24) hC dX6_rests_24 (-1) (by decide) ?_
        refine WP.iret (pc := 25) hC rfl dX6_rests_25 ?_ ?_ ?_
        all_goals (first | rfl | (unfold rtMR; refine (if_neg ?_).symm; unfold chk; first | (rw [b2_0] at h21; rw [h21, Bool.and_false, Bool.false_and]; decide) | (rw [b2_0] at h13; rw [h13, Bool.and_false]; decide) | (rw [b2_0] at h5; rw [h5, Bool.false_and, Bool.false_and]; decide)))
