/-! ===== flicker ===== -/
def smN (f : Nat → Nat) : Nat → Nat
  | 0 => 0
  | n + 1 => smN f n + f n
theorem smN_congr {f g : Nat → Nat} : ∀ {n : Nat}, (∀ k, k < n → f k = g k) → smN f n = smN g n
  | 0, _ => rfl
  | n + 1, h => by rw [smN, smN, smN_congr (fun k hk => h k (by omega)), h n (by omega)]
theorem smN_add (f : Nat → Nat) (a : Nat) : ∀ b, smN f (a + b) = smN f a + smN (fun k => f (a + k)) b
  | 0 => rfl
  | b + 1 => by rw [← Nat.add_assoc, smN, smN_add f a b, smN, Nat.add_assoc]
theorem smN_mul (f : Nat → Nat) (c : Nat) : ∀ n, smN (fun k => f k * c) n = smN f n * c
  | 0 => by simp [smN]
  | n + 1 => by rw [smN, smN, smN_mul f c n, Nat.add_mul]
theorem smN_0 : ∀ n, smN (fun _ => 0) n = 0
  | 0 => rfl
  | n + 1 => by rw [smN, smN_0 n]
/-- of two truths of a reader (spark as it is, 1 brighter) how many say yes, by a set -/
def yqB (y0 y1 : Nat → Bool) (q r : Nat) : Bool := if q / 2 ^ r % 2 = 1 then y1 r else y0 r
def tq (y0 y1 : Nat → Bool) (x r : Nat) : Nat := if y0 r = true then 10 else if y1 r = true then x else 0
/-- the weight of those sets of the first n of which c say yes -/
def wc (y0 y1 : Nat → Bool) (x n c q : Nat) : Nat := if cntN (yqB y0 y1 q) n = c then x ^ pcN q * (10 - x) ^ (n - pcN q) else 0
theorem pc_top : ∀ n, n < 5 → ∀ q, q < 2 ^ n → pcN (2 ^ n + q) = pcN q + 1 := by decide +kernel
theorem bit_lo {n q r : Nat} (hr : r < n) : (2 ^ n + q) / 2 ^ r % 2 = q / 2 ^ r % 2 := by
  have h := Nat.testBit_two_pow_add_gt (i := n) (j := r) hr q
  rw [Nat.testBit_eq_decide_div_mod_eq, Nat.testBit_eq_decide_div_mod_eq, decide_eq_decide] at h
  have h1 := Nat.mod_lt ((2 ^ n + q) / 2 ^ r) (show 0 < 2 by decide)
  have h2 := Nat.mod_lt (q / 2 ^ r) (show 0 < 2 by decide)
  omega
theorem bit_hi {n q : Nat} (hq : q < 2 ^ n) : (2 ^ n + q) / 2 ^ n % 2 = 1 := by
  rw [Nat.add_div_left _ (Nat.pow_pos (by decide)), Nat.div_eq_of_lt hq]
theorem bit_z {n q : Nat} (hq : q < 2 ^ n) : q / 2 ^ n % 2 = 0 := by rw [Nat.div_eq_of_lt hq]
theorem cnt_lo {y0 y1 : Nat → Bool} {n q : Nat} (hq : q < 2 ^ n) : cntN (yqB y0 y1 q) (n + 1) = cntN (yqB y0 y1 q) n + (if y0 n = true then 1 else 0) := by
  rw [cntN]
  unfold yqB
  rw [bit_z hq, if_neg (show ¬ (0 : Nat) = 1 by decide)]
theorem cnt_hi {y0 y1 : Nat → Bool} {n q : Nat} (hq : q < 2 ^ n) : cntN (yqB y0 y1 (2 ^ n + q)) (n + 1) = cntN (yqB y0 y1 q) n + (if y1 n = true then 1 else 0) := by
  rw [cntN, cntN_congr (g := yqB y0 y1 q) (fun r hr => by unfold yqB; rw [bit_lo hr])]
  congr 1
  unfold yqB
  rw [bit_hi hq, if_pos rfl]
theorem dp_wc {y0 y1 : Nat → Bool} (hy : ∀ r, y0 r = true → y1 r = true) {x : Nat} (hx : x ≤ 10) : ∀ n, n ≤ 5 → ∀ c, dpN (tq y0 y1 x) n c = smN (wc y0 y1 x n c) (2 ^ n)
  | 0, _, c => by
    show (if c = 0 then 1 else 0) = 0 + wc y0 y1 x 0 c 0
    unfold wc
    by_cases hc : c = 0
    · subst hc
      simp [cntN, pcN]
    · rw [if_neg hc, if_neg (by simp only [cntN]; exact fun e => hc e.symm)]
  | n + 1, hn, c => by
    have ih := dp_wc hy hx n (by omega)
    have hp : 2 ^ n ≤ 2 ^ n := Nat.le_refl _
    rw [show (2 : Nat) ^ (n + 1) = 2 ^ n + 2 ^ n by rw [Nat.pow_succ]; omega, smN_add]
    have lo : smN (wc y0 y1 x (n + 1) c) (2 ^ n) = (if y0 n = true then (if c = 0 then 0 else smN (wc y0 y1 x n (c - 1)) (2 ^ n)) else smN (wc y0 y1 x n c) (2 ^ n)) * (10 - x) := by
      by_cases h0 : y0 n = true
      · rw [if_pos h0]
        by_cases hc : c = 0
        · rw [if_pos hc, Nat.zero_mul, ← smN_0 (2 ^ n)]
          refine smN_congr (fun q hq => ?_)
          unfold wc
          rw [cnt_lo hq, if_pos h0, if_neg (by omega)]
        · rw [if_neg hc, ← smN_mul]
          refine smN_congr (fun q hq => ?_)
          unfold wc
          rw [cnt_lo hq, if_pos h0]
          have hpl := pc_lt n (by omega) q hq
          by_cases e : cntN (yqB y0 y1 q) n = c - 1
          · rw [if_pos (by omega), if_pos e, Nat.mul_assoc, ← Nat.pow_succ, show (n - pcN q).succ = n + 1 - pcN q by omega]
          · rw [if_neg (by omega), if_neg e, Nat.zero_mul]
      · rw [if_neg h0, ← smN_mul]
        refine smN_congr (fun q hq => ?_)
        unfold wc
        rw [cnt_lo hq, if_neg h0, Nat.add_zero]
        have hpl := pc_lt n (by omega) q hq
        by_cases e : cntN (yqB y0 y1 q) n = c
        · rw [if_pos e, if_pos e, Nat.mul_assoc, ← Nat.pow_succ, show (n - pcN q).succ = n + 1 - pcN q by omega]
        · rw [if_neg e, if_neg e, Nat.zero_mul]
    have hi : smN (fun k => wc y0 y1 x (n + 1) c (2 ^ n + k)) (2 ^ n) = (if y1 n = true then (if c = 0 then 0 else smN (wc y0 y1 x n (c - 1)) (2 ^ n)) else smN (wc y0 y1 x n c) (2 ^ n)) * x := by
      by_cases h1 : y1 n = true
      · rw [if_pos h1]
        by_cases hc : c = 0
        · rw [if_pos hc, Nat.zero_mul, ← smN_0 (2 ^ n)]
          refine smN_congr (fun q hq => ?_)
          unfold wc
          rw [cnt_hi hq, if_pos h1, if_neg (by omega)]
        · rw [if_neg hc, ← smN_mul]
          refine smN_congr (fun q hq => ?_)
          unfold wc
          rw [cnt_hi hq, if_pos h1, pc_top n (by omega) q hq]
          by_cases e : cntN (yqB y0 y1 q) n = c - 1
          · rw [if_pos (by omega), if_pos e, show n + 1 - (pcN q + 1) = n - pcN q by omega, Nat.pow_succ, Nat.mul_right_comm]
          · rw [if_neg (by omega), if_neg e, Nat.zero_mul]
      · rw [if_neg h1, ← smN_mul]
        refine smN_congr (fun q hq => ?_)
        unfold wc
        rw [cnt_hi hq, if_neg h1, Nat.add_zero, pc_top n (by omega) q hq]
        by_cases e : cntN (yqB y0 y1 q) n = c
        · rw [if_pos e, if_pos e, show n + 1 - (pcN q + 1) = n - pcN q by omega, Nat.pow_succ, Nat.mul_right_comm]
        · rw [if_neg e, if_neg e, Nat.zero_mul]
    rw [lo, hi]
    show stW (dpN (tq y0 y1 x) n) (tq y0 y1 x n) c = _
    unfold stW
    rw [ih c, ih (c - 1)]
    have htq : tq y0 y1 x n = if y0 n = true then 10 else if y1 n = true then x else 0 := rfl
    rw [htq]
    have hten : ∀ a : Nat, a * (10 - x) + a * x = a * 10 := fun a => by rw [← Nat.mul_add, show 10 - x + x = 10 by omega]
    by_cases h0 : y0 n = true
    · have h1 := hy n h0
      rw [if_pos h0, if_pos h0, if_pos h1]
      by_cases hc : c = 0
      · simp [hc]
      · rw [if_neg hc, if_neg hc, hten]
        simp
    · rw [if_neg h0, if_neg h0]
      by_cases h1 : y1 n = true
      · rw [if_pos h1, if_pos h1]
        by_cases hc : c = 0
        · simp [hc]
        · rw [if_neg hc, if_neg hc]
      · rw [if_neg h1, if_neg h1, hten]
        simp
theorem suM_smN (w : Nat → Nat) (m : Nat) : ∀ k, suM w m k = smN (fun c => if m ≤ c then w c else 0) k
  | 0 => rfl
  | k + 1 => by rw [suM, smN, suM_smN w m k]
theorem smN_two (f g : Nat → Nat) : ∀ b, smN f b + smN g b = smN (fun j => f j + g j) b
  | 0 => rfl
  | b + 1 => by
    have := smN_two f g b
    simp only [smN]
    omega
theorem smN_swap (f : Nat → Nat → Nat) : ∀ a b, smN (fun i => smN (f i) b) a = smN (fun j => smN (fun i => f i j) a) b
  | 0, b => by
    show 0 = _
    rw [show (fun j => smN (fun i => f i j) 0) = (fun _ => 0) from rfl, smN_0]
  | a + 1, b => by
    rw [smN, smN_swap f a b]
    rw [smN_two]
    rfl
theorem smN_one {g : Nat → Nat} {c : Nat} : ∀ {n : Nat}, c < n → smN (fun k => if c = k then g k else 0) n = g c
  | 0, h => by omega
  | n + 1, h => by
    rw [smN]
    by_cases e : c = n
    · subst e
      rw [if_pos rfl, smN_congr (g := fun _ => 0) (fun k hk => if_neg (by omega)), smN_0, Nat.zero_add]
    · rw [if_neg e, Nat.add_zero]
      exact smN_one (by omega)
theorem suS_smN (G : FF) (j x m nr : Nat) : ∀ q, suS G j x m nr q = smN (fun q => if m ≤ cntN (fyM G j q) nr then fwt x nr q else 0) q
  | 0 => rfl
  | q + 1 => by rw [suS, smN, suS_smN G j x m nr q]
theorem fl_sum {y0 y1 : Nat → Bool} (hy : ∀ r, y0 r = true → y1 r = true) {x : Nat} (hx : x ≤ 10) {nr m : Nat} (hn : nr ≤ 5) :
    suM (dpN (tq y0 y1 x) nr) m 6 = smN (fun q => if m ≤ cntN (yqB y0 y1 q) nr then fwt x nr q else 0) (2 ^ nr) := by
  rw [suM_smN, smN_congr (g := fun c => smN (fun q => if m ≤ c then wc y0 y1 x nr c q else 0) (2 ^ nr)) (fun c _ => ?_), smN_swap]
  · refine smN_congr (fun q hq => ?_)
    have hc := cntN_le (yqB y0 y1 q) nr
    have h1 := smN_one (g := fun c => if m ≤ c then fwt x nr q else 0) (c := cntN (yqB y0 y1 q) nr) (n := 6) (by omega)
    rw [← h1]
    refine smN_congr (fun c _ => ?_)
    unfold wc fwt
    by_cases e : cntN (yqB y0 y1 q) nr = c
    · rw [if_pos e, if_pos e]
    · rw [if_neg e, if_neg e]
      split <;> rfl
  · by_cases h : m ≤ c
    · rw [if_pos h, dp_wc hy hx nr hn c]
      exact smN_congr (fun q _ => by rw [if_pos h])
    · rw [if_neg h, smN_congr (g := fun _ => 0) (fun q _ => if_neg h), smN_0]
section SIM
variable {F G : FF} {n nr ns h nx sz : Nat}
theorem dpN_congr {t t' : Nat → Nat} : ∀ {r : Nat}, (∀ k, k < r → t k = t' k) → dpN t r = dpN t' r
  | 0, _ => rfl
  | r + 1, h => by
    funext k
    show stW (dpN t r) (t r) k = stW (dpN t' r) (t' r) k
    rw [dpN_congr (fun k hk => h k (by omega)), h r (by omega)]
theorem sees_b {k e b r : Int32} {t : Bool} (he : le9 e) (hb : le9 b) (hr : le9 r) : ∃ q : Nat, q ≤ 40 ∧ seesM k e b r t = nI q := by
  obtain ⟨e', he', rfl⟩ := he
  obtain ⟨b', hb', rfl⟩ := hb
  obtain ⟨r', hr', rfl⟩ := hr
  have key : ∀ c : Int32, (c = 0 ∨ c = 1 ∨ c = 2) → ∃ q : Nat, q ≤ 40 ∧ seesM c (nI e') (nI b') (nI r') t = nI q := by
    have h0 : ∀ e, e ≤ 9 → ∀ b, b ≤ 9 → ∀ r, r ≤ 9 → ∀ t : Bool, ∀ c, c ≤ 2 → (seesM (nI c) (nI e) (nI b) (nI r) t).toNatClampNeg ≤ 40 ∧ seesM (nI c) (nI e) (nI b) (nI r) t = nI (seesM (nI c) (nI e) (nI b) (nI r) t).toNatClampNeg := by decide +kernel
    intro c hc
    rcases hc with rfl | rfl | rfl
    · exact ⟨_, (h0 e' he' b' hb' r' hr' t 0 (by decide)).1, (h0 e' he' b' hb' r' hr' t 0 (by decide)).2⟩
    · exact ⟨_, (h0 e' he' b' hb' r' hr' t 1 (by decide)).1, (h0 e' he' b' hb' r' hr' t 1 (by decide)).2⟩
    · exact ⟨_, (h0 e' he' b' hb' r' hr' t 2 (by decide)).1, (h0 e' he' b' hb' r' hr' t 2 (by decide)).2⟩
  by_cases h1 : k = 1
  · exact key k (Or.inr (Or.inl h1))
  · by_cases h2 : k = 2
    · exact key k (Or.inr (Or.inr h2))
    · rw [(sees_k h1 h2).2]
      exact key 0 (Or.inl rfl)
theorem Sim.flicker (S : Sim F G n nr ns h nx sz) (s m x : Int32) (up : Bool) : flR F nr ns s m x up = flMR G nr ns s m x up := by
  unfold flR flMR
  by_cases hc : hasB s ns = true
  · rw [if_pos hc, if_pos hc]
    by_cases ho : flOk m x = true
    · rw [if_pos ho, if_pos ho]
      have h5 := S.1.2.1.2.2.1
      have h4 := S.1.2.1.2.2.2
      obtain ⟨j, hj, rfl⟩ := hasB_of (by omega) hc
      unfold flOk at ho
      rw [Bool.and_eq_true, Bool.and_eq_true, Bool.and_eq_true, decide_eq_true_eq, decide_eq_true_eq, decide_eq_true_eq, decide_eq_true_eq] at ho
      obtain ⟨⟨m0, m5⟩, x0, x10⟩ := ho
      obtain ⟨m', hm, rfl⟩ := ix0 (K := 5) m0 m5 (by decide)
      obtain ⟨x', hx, rfl⟩ := ix0 (K := 10) x0 x10 (by decide)
      have key : flS F nr (nI j) (nI m') (nI x') = flMS G nr (nI j) (nI m') (nI x') := by
        unfold flS flMS
        rw [ix_nI (show j < 100 by omega), ix_nI (show m' < 100 by omega), ix_nI (show x' < 100 by omega), suS_smN]
        obtain ⟨y0, hy0⟩ : ∃ y0 : Nat → Bool, y0 = fun r => if r < nr then sayM G 0 j r else false := ⟨_, rfl⟩
        obtain ⟨y1, hy1⟩ : ∃ y1 : Nat → Bool, y1 = fun r => if r < nr then saysB (G 3 r) (G 2 r) (brM G 0 j r + 1) else false := ⟨_, rfl⟩
        have hb : ∀ r, r < nr → ∃ q : Nat, q ≤ 40 ∧ brM G 0 j r = nI q := by
          intro r hr
          obtain ⟨hI, hR, hg, hd, -⟩ := S
          obtain ⟨-, ⟨-, -, e4, e5, e6, e7⟩, ⟨-, -, b2, b3, b4⟩, -⟩ := hR
          unfold brM
          rw [← e4, ← e7]
          refine sees_b (hg.1 r hr) (le9_lits (hg.2 j hj)) ?_
          have := hd 19 (by decide) (by decide) r (by omega)
          rw [b2 r (by omega)] at this
          simpa using this
        have hy : ∀ r, y0 r = true → y1 r = true := by
          intro r
          rw [hy0, hy1]
          dsimp only
          by_cases hr : r < nr
          · rw [if_pos hr, if_pos hr]
            obtain ⟨q, hq, e⟩ := hb r hr
            unfold sayM saysB
            rw [e]
            intro z
            rw [Bool.or_eq_true, decide_eq_true_eq, decide_eq_true_eq] at z ⊢
            rcases z with z | z
            · exact Or.inl z
            · refine Or.inr ?_
              rw [show nI q + 1 = nI (q + 1) from nI_add q 1]
              rw [i_le, nI_toInt (by omega)] at z ⊢
              omega
          · rw [if_neg hr]
            intro z
            cases z
        rw [dpN_congr (t' := tq y0 y1 x') (fun r hr => ?_), fl_sum hy hx h5]
        · refine smN_congr (fun q hq => ?_)
          rw [cntN_congr (g := fyM G j q) (fun r hr => ?_)]
          unfold yqB fyM
          rw [hy0, hy1]
          dsimp only
          rw [if_pos hr, if_pos hr]
          rcases Nat.mod_two_eq_zero_or_one (q / 2 ^ r) with z | z
          · rw [z, if_neg (by decide), show brM G 0 j r + nI 0 = brM G 0 j r from Int32.add_zero _]
            rfl
          · rw [z, if_pos rfl]
            rfl
        · unfold tnN tq
          have e5 : F 5 = G 2 := S.2.1.2.1.2.2.2.1
          have e6 : F 6 = G 3 := S.2.1.2.1.2.2.2.2.1
          rw [hy0, hy1]
          dsimp only
          have a1 : sayN F j r = sayM G 0 j r := S.say hr hj
          have a2 := S.br hr hj
          have z0 : (if r < nr then sayM G 0 j r else false) = sayM G 0 j r := if_pos hr
          have z1 : (if r < nr then saysB (G 3 r) (G 2 r) (brM G 0 j r + 1) else false) = saysB (G 3 r) (G 2 r) (brM G 0 j r + 1) := if_pos hr
          have w0 : saysB (F 6 r) (F 5 r) (sees (F 6 r) (F 4 r) (lits (tru (F 19 3)) (F 7 j)) (rdg (F 19 2) r) (tru (F 19 4)) + 1) = saysB (G 3 r) (G 2 r) (brM G 0 j r + 1) := by
            rw [a2, e5, e6]
          simp only [a1, w0, z0, z1]
      rw [key]
    · rw [if_neg ho, if_neg ho]
  · rw [if_neg hc, if_neg hc]
end SIM
