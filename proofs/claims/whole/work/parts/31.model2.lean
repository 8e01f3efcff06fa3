/-! ===== NewRaysModel: the room asked, acts, who says what ===== -/
theorem or0 (a : Int32) : a ||| 0 = a := Int32.or_zero
def rdMR (G : FF) (nr : Nat) (r w : Int32) : Int32 := if hasB r nr = true then (if w = 0 then G 1 (ix r) else if w = 1 then G 2 (ix r) else if w = 2 then G 3 (ix r) else if w = 3 then G 5 (ix r) else -2) else -1
def ppM (m : Int32) (j r : Nat) : Bool := hasT m (nI (4 * r + j))
def yesM (G : FF) (nr j : Nat) : Nat := bits (sayM G 0 j) nr
def smMR (G : FF) (nr ns : Nat) (s w : Int32) : Int32 := if hasB s ns = true then (if w = 0 then G 4 (ix s) else if w = 1 then nI (yesM G nr (ix s)) else if w = 2 then nI (bits (ppM (G 5 5) (ix s)) nr) else if w = 3 then nI (bits (ppM (G 5 6) (ix s)) nr) else -2) else -1
def ovl (f : Nat → Int32) (b : Nat) (g : Nat → Int32) (n : Nat) : Nat → Int32 := fun j => if b ≤ j ∧ j < b + n then g (j - b) else f j
theorem ovl_0 (f : Nat → Int32) (b : Nat) (g : Nat → Int32) : ovl f b g 0 = f := by funext j; unfold ovl; rw [if_neg (by omega)]
theorem ovl_up {f : Nat → Int32} {b : Nat} {g : Nat → Int32} {n : Nat} : upd (ovl f b g n) (b + n) (g n) = ovl f b g (n + 1) := by
  funext j
  unfold upd ovl
  by_cases e : j = b + n
  · rw [if_pos e, if_pos (by omega), e]
    congr 1
    omega
  · rw [if_neg e]
    by_cases q : b ≤ j ∧ j < b + n
    · rw [if_pos q, if_pos (by omega)]
    · rw [if_neg q, if_neg (by omega)]
theorem ovl_out {f : Nat → Int32} {b : Nat} {g : Nat → Int32} {n j : Nat} (h : j < b ∨ b + n ≤ j) : ovl f b g n j = f j := by unfold ovl; rw [if_neg (by omega)]
theorem ovl_in {f : Nat → Int32} {b : Nat} {g : Nat → Int32} {n j : Nat} (h : j < n) : ovl f b g n (b + j) = g j := by
  unfold ovl
  rw [if_pos (by omega)]
  congr 1
  omega
theorem upF_at (F : FF) (i : Nat) (f : Nat → Int32) : upF F i f i = f := by simp [upF]
def MA (G : FF) (nx sz : Nat) : Prop := G 0 16 = nI nx ∧ G 0 15 = nI sz ∧ nx < 14 ∧ sz ≤ 14
def incM (v : Int32) : Int32 := if 14 ≤ v then 14 else v + 1
def kaM (G : FF) (nx : Nat) : FF := up2 (up2 (upF G 9 (ovl (G 9) (9 * nx) (G 5) 9)) 0 16 (nI ((nx + 1) % 14))) 0 15 (incM (G 0 15))
theorem kaM_row {G : FF} {nx a : Nat} (h : a ≠ 0) (h9 : a ≠ 9) : kaM G nx a = G a := by
  unfold kaM
  rw [up2_row h, up2_row h, upF_row h9]
theorem MR.ka {G : FF} {nr ns nx : Nat} (h : MR G nr ns) : MR (kaM G nx) nr ns := h
theorem sayM_ka {G : FF} {nx j i : Nat} : sayM (kaM G nx) 0 j i = sayM G 0 j i := rfl
def brMR (G : FF) (nr ns : Nat) (r s : Int32) : Int32 := if chk r nr s ns = true then brM G 0 (ix s) (ix r) else -1
def rcMR (G : FF) (nr ns : Nat) (r s : Int32) : Int32 := if chk r nr s ns = true then b2 (sayM G 0 (ix s) (ix r)) else -1
def rcMF (G : FF) (nr ns nx : Nat) (r s : Int32) : FF := if chk r nr s ns = true then rdM (kaM G nx) 0 (ix r) (ix s) (sayM G 0 (ix s) (ix r)) else G
def rsMR (G : FF) (nr : Nat) (r : Int32) : Int32 := if hasB r nr = true then (if G 5 (ix r) = 0 then -3 else G 5 (ix r)) else -1
def rsMF (G : FF) (nr nx : Nat) (r : Int32) : FF := if hasB r nr = true then (if G 5 (ix r) = 0 then G else up2 (kaM G nx) 5 (ix r) 0) else G
def wdMR (G : FF) (nr ns : Nat) (r s : Int32) : Int32 := if chk r nr s ns = true then (if (hasT (G 5 5) (nI (4 * ix r + ix s)) || hasT (G 5 6) (nI (4 * ix r + ix s))) = true then b2 (hasT (G 5 5) (nI (4 * ix r + ix s))) else -3) else -1
def wdMF (G : FF) (nr ns nx : Nat) (r s : Int32) : FF := if chk r nr s ns = true then (if (hasT (G 5 5) (nI (4 * ix r + ix s)) || hasT (G 5 6) (nI (4 * ix r + ix s))) = true then up2 (up2 (kaM G nx) 5 5 (G 5 5 &&& (ppr (ix r) (ix s) ^^^ (-1)))) 5 6 (G 5 6 &&& (ppr (ix r) (ix s) ^^^ (-1))) else G) else G
def undM (G : FF) (nx : Nat) : FF := upF (up2 (up2 G 0 15 (G 0 15 - 1)) 0 16 (nI ((nx + 13) % 14))) 5 (ovl (G 5) 0 (fun k => G 9 (9 * ((nx + 13) % 14) + k)) 9)
def sayX (G : FF) (lit : Nat → Int32) (t : Bool) (i : Nat) : Bool := saysB (G 3 i) (G 2 i) (seesM (G 3 i) (G 1 i) (lit i) (G 5 i) t)
def foMR (G : FF) (nr ns : Nat) (s : Int32) : Int32 := if hasB s ns = true then nI (bits (sayX G (fun _ => 0) true) nr) else -1
def trMR (G : FF) (nr ns : Nat) (s : Int32) : Int32 := if hasB s ns = true then nI (bits (fun i => sayX G (fun _ => G 4 (ix s)) false i && !(sayX G (fun _ => 0) false i)) nr) else -1
def cvS (G : FF) (nr q s : Nat) : Bool := (!(decide (nI (yesM G nr s) &&& nI q = 0))) == decide (0 < G 4 s)
def bsM (Pq : Nat → Bool) : Nat → Int32
  | 0 => -9
  | q + 1 => if (bsM Pq q = -9 ∨ onI (nI q) 20 < onI (bsM Pq q) 20) ∧ Pq q = true then nI q else bsM Pq q
def wiM (a : Int32) (few : Nat) (s : Nat) : Nat → Int32
  | 0 => a
  | r + 1 => if hasT (nI few) (nI r) = true then wiM a few s r ||| ppr r s else wiM a few s r
def fewM (G : FF) (nr s : Nat) : Nat := if onI (nI (bits (ppM (G 5 5) s) nr)) 20 ≤ onI (nI (bits (ppM (G 5 6) s) nr)) 20 then bits (ppM (G 5 5) s) nr else bits (ppM (G 5 6) s) nr
def wgM (G : FF) (nr : Nat) : Nat → Int32
  | 0 => 0
  | s + 1 => wiM (wgM G nr s) (fewM G nr s) s nr
def wgMR (G : FF) (nr ns : Nat) (which : Bool) : Int32 := if which = true then wgM G nr ns else onI (wgM G nr ns) 20
def lyM (G : FF) : FF := upF G 5 (ovl (G 5) 9 (G 5) 9)

set_option maxHeartbeats 4000000 in
theorem k_X6_reader (l : Launch) (F : FF) (L : Int64) (nr ns : Nat) (r w : Int32) (hM : MR F nr ns) : CI l yX6_reader cX6_reader 3 (some .int) (rmx 2 46) wM [.ref 0, .int r, .int w] F L (rdMR F nr r w) F L := by
  refine mkI [some (.ref 0), some (.int r), some (.int w)] 0 (by decide) rfl (Nat.le_of_ble_eq_true rfl) ?_
  intro x d hx hC
  subst hx
  have hC : Cx x cX6_reader 3 RX6 (some .int) (rmx 2 46) wM d := hC
  refine WP.aln (pc := 0) hC dX6_reader_0 rfl ?_
  refine WP.iln (pc := 1) hC dX6_reader_1 rfl ?_
  refine WP.callVI (pc := 2) hC dX6_reader_2 (k_X6_isReader _ F L nr ns r hM) ml_X6_111 rfl rfl (by decide) rfl (Nat.le_of_ble_eq_true rfl) ⟨by decide, by decide⟩ ?_
  refine WP.ifne (pc := 5) hC dX6_reader_5 10 (by decide) (fun h5 => ?_) (fun h5 => ?_)
  · rw [b2_n0] at h5
    obtain ⟨i, hi, rfl⟩ := hasB_of hM.2.2.1 h5
    have hi5 : i < 5 := by have := hM.2.2.1; omega
    have ei : ix (nI i) = i := ix_nI (by omega)
    refine WP.iln (pc := 10) hC dX6_reader_10 rfl ?_
    by_cases sw0 : w = 0
    · refine WP.tsIn (pc := 11) hC dX6_reader_11 40 (by rw [sw0]; decide) (by rw [sw0]; decide) (off := 29) (by rw [sw0]; rfl) (by decide) ?_
      refine WP.aln (pc := 40) hC dX6_reader_40 rfl ?_
      refine WP.gf (pc := 41) hC dX6_reader_41 fl_X6_7 (by decide) rfl rfl ?_
      refine WP.iln (pc := 44) hC dX6_reader_44 rfl ?_
      refine WP.ial (pc := 45) hC dX6_reader_45 i rfl hi5 (by decide) rfl (by decide) ?_
      refine WP.iret (pc := 46) hC rfl dX6_reader_46 ?_ ?_ ?_
      all_goals (first | rfl | (simp [rdMR, h5]; done) | (simp [rdMR, h5, ei, sw0]; done) | (simp [rdMR, h5, ei, sw1]; done) | (simp [rdMR, h5, ei, sw2]; done) | (simp [rdMR, h5, ei, sw3]; done) | (simp [rdMR, h5, sw0, sw1, sw2, sw3]; done))
    by_cases sw1 : w = 1
    · refine WP.tsIn (pc := 11) hC dX6_reader_11 47 (by rw [sw1]; decide) (by rw [sw1]; decide) (off := 36) (by rw [sw1]; rfl) (by decide) ?_
      refine WP.aln (pc := 47) hC dX6_reader_47 rfl ?_
      refine WP.gf (pc := 48) hC dX6_reader_48 fl_X6_13 (by decide) rfl rfl ?_
      refine WP.iln (pc := 51) hC dX6_reader_51 rfl ?_
      refine WP.ial (pc := 52) hC dX6_reader_52 i rfl hi5 (by decide) rfl (by decide) ?_
      refine WP.iret (pc := 53) hC rfl dX6_reader_53 ?_ ?_ ?_
      all_goals (first | rfl | (simp [rdMR, h5]; done) | (simp [rdMR, h5, ei, sw0]; done) | (simp [rdMR, h5, ei, sw1]; done) | (simp [rdMR, h5, ei, sw2]; done) | (simp [rdMR, h5, ei, sw3]; done) | (simp [rdMR, h5, sw0, sw1, sw2, sw3]; done))
    by_cases sw2 : w = 2
    · refine WP.tsIn (pc := 11) hC dX6_reader_11 54 (by rw [sw2]; decide) (by rw [sw2]; decide) (off := 43) (by rw [sw2]; rfl) (by decide) ?_
      refine WP.aln (pc := 54) hC dX6_reader_54 rfl ?_
      refine WP.gf (pc := 55) hC dX6_reader_55 fl_X6_16 (by decide) rfl rfl ?_
      refine WP.iln (pc := 58) hC dX6_reader_58 rfl ?_
      refine WP.ial (pc := 59) hC dX6_reader_59 i rfl hi5 (by decide) rfl (by decide) ?_
      refine WP.iret (pc := 60) hC rfl dX6_reader_60 ?_ ?_ ?_
      all_goals (first | rfl | (simp [rdMR, h5]; done) | (simp [rdMR, h5, ei, sw0]; done) | (simp [rdMR, h5, ei, sw1]; done) | (simp [rdMR, h5, ei, sw2]; done) | (simp [rdMR, h5, ei, sw3]; done) | (simp [rdMR, h5, sw0, sw1, sw2, sw3]; done))
    by_cases sw3 : w = 3
    · refine WP.tsIn (pc := 11) hC dX6_reader_11 61 (by rw [sw3]; decide) (by rw [sw3]; decide) (off := 50) (by rw [sw3]; rfl) (by decide) ?_
      refine WP.aln (pc := 61) hC dX6_reader_61 rfl ?_
      refine WP.gf (pc := 62) hC dX6_reader_62 fl_X6_22 (by decide) rfl rfl ?_
      refine WP.iln (pc := 65) hC dX6_reader_65 rfl ?_
      refine WP.ial (pc := 66) hC dX6_reader_66 i rfl (by omega) (by decide) rfl (by decide) ?_
      refine WP.iret (pc := 67) hC rfl dX6_reader_67 ?_ ?_ ?_
      all_goals (first | rfl | (simp [rdMR, h5]; done) | (simp [rdMR, h5, ei, sw0]; done) | (simp [rdMR, h5, ei, sw1]; done) | (simp [rdMR, h5, ei, sw2]; done) | (simp [rdMR, h5, ei, sw3]; done) | (simp [rdMR, h5, sw0, sw1, sw2, sw3]; done))
    refine WP.tsOut (pc := 11) hC dX6_reader_11 68 (by have a0 := lv_neT sw0 (show (0 : Int32).toInt = 0 by decide); have a1 := lv_neT sw1 (show (1 : Int32).toInt = 1 by decide); have a2 := lv_neT sw2 (show (2 : Int32).toInt = 2 by decide); have a3 := lv_neT sw3 (show (3 : Int32).toInt = 3 by decide); omega) (by decide) ?_
    refine WP.bipush (pc := 68) hC dX6_reader_68 (-2) (by decide) ?_
    refine WP.iret (pc := 70) hC rfl dX6_reader_70 ?_ ?_ ?_
    all_goals (first | rfl | (simp [rdMR, h5]; done) | (simp [rdMR, h5, ei, sw0]; done) | (simp [rdMR, h5, ei, sw1]; done) | (simp [rdMR, h5, ei, sw2]; done) | (simp [rdMR, h5, ei, sw3]; done) | (simp [rdMR, h5, sw0, sw1, sw2, sw3]; done))
  · rw [b2_0] at h5
    refine WP.iconst (pc := 8) hC dX6_reader_8 (-1) (by decide) ?_
    refine WP.iret (pc := 9) hC rfl dX6_reader_9 ?_ ?_ ?_
    all_goals (first | rfl | (simp [rdMR, h5]; done) | (simp [rdMR, h5, ei, sw0]; done) | (simp [rdMR, h5, ei, sw1]; done) | (simp [rdMR, h5, ei, sw2]; done) | (simp [rdMR, h5, ei, sw3]; done) | (simp [rdMR, h5, sw0, sw1, sw2, sw3]; done))
set_option maxHeartbeats 4000000 in
theorem k_X6_papersOn (l : Launch) (F : FF) (L : Int64) (nr ns j : Nat) (m : Int32) (hM : MR F nr ns) : CI l yX6_papersOn cX6_papersOn 5 (some .int) (rmx 1 21) wM [.ref 0, .int m, .int (nI j)] F L (nI (bits (ppM m j) nr)) F L := by
  refine mkI [some (.ref 0), some (.int m), some (.int (nI j)), none, none] 2 (by decide) rfl (Nat.le_of_ble_eq_true rfl) ?_
  intro x d hx hC
  subst hx
  have hC : Cx x cX6_papersOn 5 RX6 (some .int) (rmx 1 21) wM d := hC
  have hr5 := hM.2.2.1
  have loop : ∀ i, i ≤ nr → WP x 5 wM d (QI x wM d (nI (bits (ppM m j) nr)) F L) 5 [some (.ref 0), some (.int m), some (.int (nI j)), some (.int (nI (bits (ppM m j) i))), some (.int (nI i))] [] F L := by
    refine loop_c (n := nr) (P := fun i => WP x 5 wM d (QI x wM d (nI (bits (ppM m j) nr)) F L) 5 [some (.ref 0), some (.int m), some (.int (nI j)), some (.int (nI (bits (ppM m j) i))), some (.int (nI i))] [] F L) ?_
    intro i hi0 ih
    refine WP.il (pc := 5) hC dX6_papersOn_5 rfl ?_
    refine WP.aln (pc := 7) hC dX6_papersOn_7 rfl ?_
    refine WP.gf (pc := 8) hC dX6_papersOn_8 fl_X6_86 (by decide) rfl rfl ?_
    refine WP.icge (pc := 11) hC dX6_papersOn_11 44 (by decide) (fun h11 => ?_) (fun h11 => ?_)
    · have hi9 : i = nr := by
        have h11 := h11
        rw [hM.1] at h11
        have := (nI_leI (by omega) (by omega)).mp h11
        omega
      subst hi9
      refine WP.iln (pc := 44) hC dX6_papersOn_44 rfl ?_
      refine WP.iret (pc := 45) hC rfl dX6_papersOn_45 ?_ ?_ ?_
      all_goals (rfl)
    · have hi : i < nr := by
        have h11 := h11
        rw [hM.1] at h11
        exact (nI_ltI (by omega) (by omega)).mp (i_nle.mp h11)
      have hv := ih hi
      refine WP.iln (pc := 14) hC dX6_papersOn_14 rfl ?_
      refine WP.iln (pc := 15) hC dX6_papersOn_15 rfl ?_
      refine WP.iconst (pc := 16) hC dX6_papersOn_16 4 (by decide) ?_
      refine WP.il (pc := 17) hC dX6_papersOn_17 rfl ?_
      refine WP.imul (pc := 19) hC dX6_papersOn_19 ?_
      refine WP.iln (pc := 20) hC dX6_papersOn_20 rfl ?_
      refine WP.iadd (pc := 21) hC dX6_papersOn_21 ?_
      rw [nI4, nI_add]
      refine WP.callSI (pc := 22) hC dX6_papersOn_22 (k_X6_has _ F L wM m (nI (4 * i + j))) ml_X6_115 rfl rfl (Nat.le_of_ble_eq_true rfl) ⟨by decide, by decide⟩ ?_
      refine WP.ifeq (pc := 25) hC dX6_papersOn_25 35 (by decide) (fun h25 => ?_) (fun h25 => ?_)
      · rw [b2_0] at h25
        refine WP.iconst (pc := 35) hC dX6_papersOn_35 0 (by decide) ?_
        refine WP.ior (pc := 36) hC dX6_papersOn_36 ?_
        first | rw [sh5 i (by omega), or_bit' _ (by omega)] | rw [or0]
        refine WP.isn (lv' := [_, _, _, _, _]) (pc := 37) hC dX6_papersOn_37 rfl (by decide) rfl ?_
        refine WP.iinc (lv' := [_, _, _, _, _]) (pc := 38) hC dX6_papersOn_38 rfl (_ + 1) rfl rfl (by decide) rfl ?_
        refine WP.goto (pc := 41) hC dX6_papersOn_41 5 (by decide) ?_
        rw [nIp1]
        first | (rw [bits_t (f := (ppM m j)) h25] at hv; exact hv) | (rw [bits_f (f := (ppM m j)) h25] at hv; exact hv)
      · rw [b2_n0] at h25
        refine WP.iconst (pc := 28) hC dX6_papersOn_28 1 (by decide) ?_
        refine WP.il (pc := 29) hC dX6_papersOn_29 rfl ?_
        refine WP.ishl (pc := 31) hC dX6_papersOn_31 ?_
        refine WP.goto (pc := 32) hC dX6_papersOn_32 36 (by decide) ?_
        refine WP.ior (pc := 36) hC dX6_papersOn_36 ?_
        first | rw [sh5 i (by omega), or_bit' _ (by omega)] | rw [or0]
        refine WP.isn (lv' := [_, _, _, _, _]) (pc := 37) hC dX6_papersOn_37 rfl (by decide) rfl ?_
        refine WP.iinc (lv' := [_, _, _, _, _]) (pc := 38) hC dX6_papersOn_38 rfl (_ + 1) rfl rfl (by decide) rfl ?_
        refine WP.goto (pc := 41) hC dX6_papersOn_41 5 (by decide) ?_
        rw [nIp1]
        first | (rw [bits_t (f := (ppM m j)) h25] at hv; exact hv) | (rw [bits_f (f := (ppM m j)) h25] at hv; exact hv)
  refine WP.iconst (pc := 0) hC dX6_papersOn_0 0 (by decide) ?_
  refine WP.isn (lv' := [_, _, _, _, _]) (pc := 1) hC dX6_papersOn_1 rfl (by decide) rfl ?_
  refine WP.iconst (pc := 2) hC dX6_papersOn_2 0 (by decide) ?_
  refine WP.is (lv' := [_, _, _, _, _]) (pc := 3) hC dX6_papersOn_3 rfl (by decide) rfl ?_
  exact loop 0 (Nat.zero_le _)
set_option maxHeartbeats 4000000 in
theorem k_X6_yesOn (l : Launch) (F : FF) (L : Int64) (nr ns j : Nat) (hM : MR F nr ns) (hj : j < 4) : CI l yX6_yesOn cX6_yesOn 4 (some .int) (rmx 3 75) wM [.ref 0, .int (nI j)] F L (nI (yesM F nr j)) F L := by
  refine mkI [some (.ref 0), some (.int (nI j)), none, none] 2 (by decide) rfl (Nat.le_of_ble_eq_true rfl) ?_
  intro x d hx hC
  subst hx
  have hC : Cx x cX6_yesOn 4 RX6 (some .int) (rmx 3 75) wM d := hC
  have hr5 := hM.2.2.1
  have loop : ∀ i, i ≤ nr → WP x 4 wM d (QI x wM d (nI (yesM F nr j)) F L) 4 [some (.ref 0), some (.int (nI j)), some (.int (nI (bits (sayM F 0 j) i))), some (.int (nI i))] [] F L := by
    refine loop_c (n := nr) (P := fun i => WP x 4 wM d (QI x wM d (nI (yesM F nr j)) F L) 4 [some (.ref 0), some (.int (nI j)), some (.int (nI (bits (sayM F 0 j) i))), some (.int (nI i))] [] F L) ?_
    intro i hi0 ih
    refine WP.iln (pc := 4) hC dX6_yesOn_4 rfl ?_
    refine WP.aln (pc := 5) hC dX6_yesOn_5 rfl ?_
    refine WP.gf (pc := 6) hC dX6_yesOn_6 fl_X6_86 (by decide) rfl rfl ?_
    refine WP.icge (pc := 9) hC dX6_yesOn_9 38 (by decide) (fun h9 => ?_) (fun h9 => ?_)
    · have hi9 : i = nr := by
        have h9 := h9
        rw [hM.1] at h9
        have := (nI_leI (by omega) (by omega)).mp h9
        omega
      subst hi9
      refine WP.iln (pc := 38) hC dX6_yesOn_38 rfl ?_
      refine WP.iret (pc := 39) hC rfl dX6_yesOn_39 ?_ ?_ ?_
      all_goals (rfl)
    · have hi : i < nr := by
        have h9 := h9
        rw [hM.1] at h9
        exact (nI_ltI (by omega) (by omega)).mp (i_nle.mp h9)
      have hv := ih hi
      refine WP.iln (pc := 12) hC dX6_yesOn_12 rfl ?_
      refine WP.aln (pc := 13) hC dX6_yesOn_13 rfl ?_
      refine WP.iconst (pc := 14) hC dX6_yesOn_14 0 (by decide) ?_
      refine WP.iln (pc := 15) hC dX6_yesOn_15 rfl ?_
      refine WP.iln (pc := 16) hC dX6_yesOn_16 rfl ?_
      refine WP.callVI (pc := 17) hC dX6_yesOn_17 (k_X6_saysOn _ F L 0 i j (by decide) (by omega) hj) ml_X6_107 rfl rfl (by decide) rfl (Nat.le_of_ble_eq_true rfl) ⟨by decide, by decide⟩ ?_
      refine WP.ifeq (pc := 20) hC dX6_yesOn_20 29 (by decide) (fun h20 => ?_) (fun h20 => ?_)
      · rw [b2_0] at h20
        refine WP.iconst (pc := 29) hC dX6_yesOn_29 0 (by decide) ?_
        refine WP.ior (pc := 30) hC dX6_yesOn_30 ?_
        first | rw [sh5 i (by omega), or_bit' _ (by omega)] | rw [or0]
        refine WP.isn (lv' := [_, _, _, _]) (pc := 31) hC dX6_yesOn_31 rfl (by decide) rfl ?_
        refine WP.iinc (lv' := [_, _, _, _]) (pc := 32) hC dX6_yesOn_32 rfl (_ + 1) rfl rfl (by decide) rfl ?_
        refine WP.goto (pc := 35) hC dX6_yesOn_35 4 (by decide) ?_
        rw [nIp1]
        first | (rw [bits_t (f := (sayM F 0 j)) h20] at hv; exact hv) | (rw [bits_f (f := (sayM F 0 j)) h20] at hv; exact hv)
      · rw [b2_n0] at h20
        refine WP.iconst (pc := 23) hC dX6_yesOn_23 1 (by decide) ?_
        refine WP.iln (pc := 24) hC dX6_yesOn_24 rfl ?_
        refine WP.ishl (pc := 25) hC dX6_yesOn_25 ?_
        refine WP.goto (pc := 26) hC dX6_yesOn_26 30 (by decide) ?_
        refine WP.ior (pc := 30) hC dX6_yesOn_30 ?_
        first | rw [sh5 i (by omega), or_bit' _ (by omega)] | rw [or0]
        refine WP.isn (lv' := [_, _, _, _]) (pc := 31) hC dX6_yesOn_31 rfl (by decide) rfl ?_
        refine WP.iinc (lv' := [_, _, _, _]) (pc := 32) hC dX6_yesOn_32 rfl (_ + 1) rfl rfl (by decide) rfl ?_
        refine WP.goto (pc := 35) hC dX6_yesOn_35 4 (by decide) ?_
        rw [nIp1]
        first | (rw [bits_t (f := (sayM F 0 j)) h20] at hv; exact hv) | (rw [bits_f (f := (sayM F 0 j)) h20] at hv; exact hv)
  refine WP.iconst (pc := 0) hC dX6_yesOn_0 0 (by decide) ?_
  refine WP.isn (lv' := [_, _, _, _]) (pc := 1) hC dX6_yesOn_1 rfl (by decide) rfl ?_
  refine WP.iconst (pc := 2) hC dX6_yesOn_2 0 (by decide) ?_
  refine WP.isn (lv' := [_, _, _, _]) (pc := 3) hC dX6_yesOn_3 rfl (by decide) rfl ?_
  exact loop 0 (Nat.zero_le _)
set_option maxHeartbeats 4000000 in
theorem k_X6_sample (l : Launch) (F : FF) (L : Int64) (nr ns : Nat) (s w : Int32) (hM : MR F nr ns) : CI l yX6_sample cX6_sample 3 (some .int) (rmx 4 98) wM [.ref 0, .int s, .int w] F L (smMR F nr ns s w) F L := by
  refine mkI [some (.ref 0), some (.int s), some (.int w)] 0 (by decide) rfl (Nat.le_of_ble_eq_true rfl) ?_
  intro x d hx hC
  subst hx
  have hC : Cx x cX6_sample 3 RX6 (some .int) (rmx 4 98) wM d := hC
  refine WP.aln (pc := 0) hC dX6_sample_0 rfl ?_
  refine WP.iln (pc := 1) hC dX6_sample_1 rfl ?_
  refine WP.callVI (pc := 2) hC dX6_sample_2 (k_X6_isSample _ F L nr ns s hM) ml_X6_118 rfl rfl (by decide) rfl (Nat.le_of_ble_eq_true rfl) ⟨by decide, by decide⟩ ?_
  refine WP.ifne (pc := 5) hC dX6_sample_5 10 (by decide) (fun h5 => ?_) (fun h5 => ?_)
  · rw [b2_n0] at h5
    obtain ⟨j, hj, rfl⟩ := hasB_of (by have := hM.2.2.2; omega) h5
    have hj4 : j < 4 := by have := hM.2.2.2; omega
    have ej : ix (nI j) = j := ix_nI (by omega)
    refine WP.iln (pc := 10) hC dX6_sample_10 rfl ?_
    by_cases sw0 : w = 0
    · refine WP.tsIn (pc := 11) hC dX6_sample_11 40 (by rw [sw0]; decide) (by rw [sw0]; decide) (off := 29) (by rw [sw0]; rfl) (by decide) ?_
      refine WP.aln (pc := 40) hC dX6_sample_40 rfl ?_
      refine WP.gf (pc := 41) hC dX6_sample_41 fl_X6_19 (by decide) rfl rfl ?_
      refine WP.iln (pc := 44) hC dX6_sample_44 rfl ?_
      refine WP.ial (pc := 45) hC dX6_sample_45 j rfl hj4 (by decide) rfl (by decide) ?_
      refine WP.iret (pc := 46) hC rfl dX6_sample_46 ?_ ?_ ?_
      all_goals (first | rfl | (simp [smMR, h5]; done) | (simp [smMR, h5, ej, sw0]; done) | (simp [smMR, h5, ej, sw1]; done) | (simp [smMR, h5, ej, sw2]; done) | (simp [smMR, h5, ej, sw3]; done) | (simp [smMR, h5, sw0, sw1, sw2, sw3]; done))
    by_cases sw1 : w = 1
    · refine WP.tsIn (pc := 11) hC dX6_sample_11 47 (by rw [sw1]; decide) (by rw [sw1]; decide) (off := 36) (by rw [sw1]; rfl) (by decide) ?_
      refine WP.aln (pc := 47) hC dX6_sample_47 rfl ?_
      refine WP.iln (pc := 48) hC dX6_sample_48 rfl ?_
      refine WP.callVI (pc := 49) hC dX6_sample_49 (k_X6_yesOn _ F L nr ns j hM hj4) ml_X6_121 rfl rfl (by decide) rfl (Nat.le_of_ble_eq_true rfl) ⟨by decide, by decide⟩ ?_
      refine WP.iret (pc := 52) hC rfl dX6_sample_52 ?_ ?_ ?_
      all_goals (first | rfl | (simp [smMR, h5]; done) | (simp [smMR, h5, ej, sw0]; done) | (simp [smMR, h5, ej, sw1]; done) | (simp [smMR, h5, ej, sw2]; done) | (simp [smMR, h5, ej, sw3]; done) | (simp [smMR, h5, sw0, sw1, sw2, sw3]; done))
    by_cases sw2 : w = 2
    · refine WP.tsIn (pc := 11) hC dX6_sample_11 53 (by rw [sw2]; decide) (by rw [sw2]; decide) (off := 42) (by rw [sw2]; rfl) (by decide) ?_
      refine WP.aln (pc := 53) hC dX6_sample_53 rfl ?_
      refine WP.aln (pc := 54) hC dX6_sample_54 rfl ?_
      refine WP.gf (pc := 55) hC dX6_sample_55 fl_X6_22 (by decide) rfl rfl ?_
      refine WP.iconst (pc := 58) hC dX6_sample_58 5 (by decide) ?_
      refine WP.ial (pc := 59) hC dX6_sample_59 5 rfl (by decide) (by decide) rfl (by decide) ?_
      refine WP.iln (pc := 60) hC dX6_sample_60 rfl ?_
      refine WP.callVI (pc := 61) hC dX6_sample_61 (k_X6_papersOn _ F L nr ns j _ hM) ml_X6_125 rfl rfl (by decide) rfl (Nat.le_of_ble_eq_true rfl) ⟨by decide, by decide⟩ ?_
      refine WP.iret (pc := 64) hC rfl dX6_sample_64 ?_ ?_ ?_
      all_goals (first | rfl | (simp [smMR, h5]; done) | (simp [smMR, h5, ej, sw0]; done) | (simp [smMR, h5, ej, sw1]; done) | (simp [smMR, h5, ej, sw2]; done) | (simp [smMR, h5, ej, sw3]; done) | (simp [smMR, h5, sw0, sw1, sw2, sw3]; done))
    by_cases sw3 : w = 3
    · refine WP.tsIn (pc := 11) hC dX6_sample_11 65 (by rw [sw3]; decide) (by rw [sw3]; decide) (off := 54) (by rw [sw3]; rfl) (by decide) ?_
      refine WP.aln (pc := 65) hC dX6_sample_65 rfl ?_
      refine WP.aln (pc := 66) hC dX6_sample_66 rfl ?_
      refine WP.gf (pc := 67) hC dX6_sample_67 fl_X6_22 (by decide) rfl rfl ?_
      refine WP.bipush (pc := 70) hC dX6_sample_70 6 (by decide) ?_
      refine WP.ial (pc := 72) hC dX6_sample_72 6 rfl (by decide) (by decide) rfl (by decide) ?_
      refine WP.iln (pc := 73) hC dX6_sample_73 rfl ?_
      refine WP.callVI (pc := 74) hC dX6_sample_74 (k_X6_papersOn _ F L nr ns j _ hM) ml_X6_125 rfl rfl (by decide) rfl (Nat.le_of_ble_eq_true rfl) ⟨by decide, by decide⟩ ?_
      refine WP.iret (pc := 77) hC rfl dX6_sample_77 ?_ ?_ ?_
      all_goals (first | rfl | (simp [smMR, h5]; done) | (simp [smMR, h5, ej, sw0]; done) | (simp [smMR, h5, ej, sw1]; done) | (simp [smMR, h5, ej, sw2]; done) | (simp [smMR, h5, ej, sw3]; done) | (simp [smMR, h5, sw0, sw1, sw2, sw3]; done))
    refine WP.tsOut (pc := 11) hC dX6_sample_11 78 (by have a0 := lv_neT sw0 (show (0 : Int32).toInt = 0 by decide); have a1 := lv_neT sw1 (show (1 : Int32).toInt = 1 by decide); have a2 := lv_neT sw2 (show (2 : Int32).toInt = 2 by decide); have a3 := lv_neT sw3 (show (3 : Int32).toInt = 3 by decide); omega) (by decide) ?_
    refine WP.bipush (pc := 78) hC dX6_sample_78 (-2) (by decide) ?_
    refine WP.iret (pc := 80) hC rfl dX6_sample_80 ?_ ?_ ?_
    all_goals (first | rfl | (simp [smMR, h5]; done) | (simp [smMR, h5, ej, sw0]; done) | (simp [smMR, h5, ej, sw1]; done) | (simp [smMR, h5, ej, sw2]; done) | (simp [smMR, h5, ej, sw3]; done) | (simp [smMR, h5, sw0, sw1, sw2, sw3]; done))
  · rw [b2_0] at h5
    refine WP.iconst (pc := 8) hC dX6_sample_8 (-1) (by decide) ?_
    refine WP.iret (pc := 9) hC rfl dX6_sample_9 ?_ ?_ ?_
    all_goals (first | rfl | (simp [smMR, h5]; done) | (simp [smMR, h5, ej, sw0]; done) | (simp [smMR, h5, ej, sw1]; done) | (simp [smMR, h5, ej, sw2]; done) | (simp [smMR, h5, ej, sw3]; done) | (simp [smMR, h5, sw0, sw1, sw2, sw3]; done))
set_option maxHeartbeats 4000000 in
theorem k_X6_bright (l : Launch) (F : FF) (L : Int64) (nr ns : Nat) (r s : Int32) (hM : MR F nr ns) : CI l yX6_bright cX6_bright 3 (some .int) (rmx 2 52) wM [.ref 0, .int r, .int s] F L (brMR F nr ns r s) F L := by
  refine mkI [some (.ref 0), some (.int r), some (.int s)] 0 (by decide) rfl (Nat.le_of_ble_eq_true rfl) ?_
  intro x d hx hC
  subst hx
  have hC : Cx x cX6_bright 3 RX6 (some .int) (rmx 2 52) wM d := hC
  refine WP.aln (pc := 0) hC dX6_bright_0 rfl ?_
  refine WP.iln (pc := 1) hC dX6_bright_1 rfl ?_
  refine WP.callVI (pc := 2) hC dX6_bright_2 (k_X6_isReader _ F L nr ns r hM) ml_X6_111 rfl rfl (by decide) rfl (Nat.le_of_ble_eq_true rfl) ⟨by decide, by decide⟩ ?_
  refine WP.ifeq (pc := 5) hC dX6_bright_5 26 (by decide) (fun h5 => ?_) (fun h5 => ?_)
  · have hc9 : ¬ chk r nr s ns = true := by
      unfold chk
      first | (rw [b2_0] at h13; rw [h13, Bool.and_false]; decide) | (rw [b2_0] at h5; rw [h5, Bool.false_and]; decide)
    refine WP.iconst (pc := 26) hC dX6_bright_26 (-1) (by decide) ?_
    refine WP.iret (pc := 27) hC rfl dX6_bright_27 ?_ ?_ ?_
    all_goals (first | rfl | (unfold brMR; rw [if_pos hc9, ei, ej]) | (unfold brMR; rw [if_neg hc9]))
  · refine WP.aln (pc := 8) hC dX6_bright_8 rfl ?_
    refine WP.iln (pc := 9) hC dX6_bright_9 rfl ?_
    refine WP.callVI (pc := 10) hC dX6_bright_10 (k_X6_isSample _ F L nr ns s hM) ml_X6_118 rfl rfl (by decide) rfl (Nat.le_of_ble_eq_true rfl) ⟨by decide, by decide⟩ ?_
    refine WP.ifeq (pc := 13) hC dX6_bright_13 26 (by decide) (fun h13 => ?_) (fun h13 => ?_)
    · have hc9 : ¬ chk r nr s ns = true := by
        unfold chk
        first | (rw [b2_0] at h13; rw [h13, Bool.and_false]; decide) | (rw [b2_0] at h5; rw [h5, Bool.false_and]; decide)
      refine WP.iconst (pc := 26) hC dX6_bright_26 (-1) (by decide) ?_
      refine WP.iret (pc := 27) hC rfl dX6_bright_27 ?_ ?_ ?_
      all_goals (first | rfl | (unfold brMR; rw [if_pos hc9, ei, ej]) | (unfold brMR; rw [if_neg hc9]))
    · rw [b2_n0] at h5 h13
      have h9 : (hasB r nr && hasB s ns) = true := by rw [h5, h13]; rfl
      obtain ⟨i, j, hi, hj, rfl, rfl⟩ := chk_of hM.2.2.1 hM.2.2.2 h9
      have hc9 : chk (nI i) nr (nI j) ns = true := h9
      have hi5 : i < 5 := by have := hM.2.2.1; omega
      have hj4 : j < 4 := by have := hM.2.2.2; omega
      have ei : ix (nI i) = i := ix_nI (by omega)
      have ej : ix (nI j) = j := ix_nI (by omega)
      refine WP.aln (pc := 16) hC dX6_bright_16 rfl ?_
      refine WP.iconst (pc := 17) hC dX6_bright_17 0 (by decide) ?_
      refine WP.iln (pc := 18) hC dX6_bright_18 rfl ?_
      refine WP.iln (pc := 19) hC dX6_bright_19 rfl ?_
      refine WP.callVI (pc := 20) hC dX6_bright_20 (k_X6_brightOn _ F L 0 i j (by decide) hi5 hj4) ml_X6_99 rfl rfl (by decide) rfl (Nat.le_of_ble_eq_true rfl) ⟨by decide, by decide⟩ ?_
      refine WP.goto (pc := 23) hC dX6_bright_23 27 (by decide) ?_
      refine WP.iret (pc := 27) hC rfl dX6_bright_27 ?_ ?_ ?_
      all_goals (first | rfl | (unfold brMR; rw [if_pos hc9, ei, ej]) | (unfold brMR; rw [if_neg hc9]))
set_option maxHeartbeats 4000000 in
theorem k_X6_keepAct (l : Launch) (F : FF) (L : Int64) (nx sz : Nat) (hA : MA F nx sz) : CV l yX6_keepAct cX6_keepAct 2 none (rmx 0 0) wM [.ref 0] F L (kaM F nx) L := by
  refine mkV [some (.ref 0), none] 1 (by decide) rfl (Nat.le_of_ble_eq_true rfl) ?_
  intro x d hx hC
  subst hx
  have hC : Cx x cX6_keepAct 2 RX6 none (rmx 0 0) wM d := hC
  have hx := hA.2.2.1
  have loop : ∀ k, k ≤ 9 → WP x 2 wM d (QV x wM d (kaM F nx) L) 2 [some (.ref 0), some (.int (nI k))] [] (upF F 9 (ovl (F 9) (9 * nx) (F 5) k)) L := by
    refine loop_c (n := 9) (P := fun k => WP x 2 wM d (QV x wM d (kaM F nx) L) 2 [some (.ref 0), some (.int (nI k))] [] (upF F 9 (ovl (F 9) (9 * nx) (F 5) k)) L) ?_
    intro k hk0 ih
    refine WP.iln (pc := 2) hC dX6_keepAct_2 rfl ?_
    refine WP.bipush (pc := 3) hC dX6_keepAct_3 9 (by decide) ?_
    refine WP.icge (pc := 5) hC dX6_keepAct_5 34 (by decide) (fun h5 => ?_) (fun h5 => ?_)
    · have hk9 : k = 9 := by
        have := (nI_leI (a := 9) (by decide) (by omega)).mp h5
        omega
      subst hk9
      refine WP.aln (pc := 34) hC dX6_keepAct_34 rfl ?_
      refine WP.aln (pc := 35) hC dX6_keepAct_35 rfl ?_
      refine WP.gf (pc := 36) hC dX6_keepAct_36 fl_X6_128 (by decide) rfl rfl ?_
      rw [show upF F 9 (ovl (F 9) (9 * nx) (F 5) 9) 0 16 = nI nx from hA.1]
      refine WP.iconst (pc := 39) hC dX6_keepAct_39 1 (by decide) ?_
      refine WP.iadd (pc := 40) hC dX6_keepAct_40 ?_
      rw [nIp1]
      refine WP.bipush (pc := 41) hC dX6_keepAct_41 14 (by decide) ?_
      refine WP.irem (pc := 43) hC dX6_keepAct_43 (by decide) ?_
      rw [show nI (nx + 1) - nI (nx + 1) / 14 * 14 = nI ((nx + 1) % 14) from pk_rem (d := 14) (by omega) (by decide) (by decide)]
      refine WP.pf (pc := 44) hC dX6_keepAct_44 fp_X6_128 rfl rfl (by decide) rfl rfl (Nat.le_of_ble_eq_true rfl) ?_
      refine WP.aln (pc := 47) hC dX6_keepAct_47 rfl ?_
      refine WP.aln (pc := 48) hC dX6_keepAct_48 rfl ?_
      refine WP.gf (pc := 49) hC dX6_keepAct_49 fl_X6_92 (by decide) rfl rfl ?_
      refine WP.bipush (pc := 52) hC dX6_keepAct_52 14 (by decide) ?_
      refine WP.icge (pc := 54) hC dX6_keepAct_54 66 (by decide) (fun h54 => ?_) (fun h54 => ?_)
      · refine WP.bipush (pc := 66) hC dX6_keepAct_66 14 (by decide) ?_
        refine WP.pf (pc := 68) hC dX6_keepAct_68 fp_X6_92 rfl rfl (by decide) rfl rfl (Nat.le_of_ble_eq_true rfl) ?_
        refine WP.vret (pc := 71) hC rfl dX6_keepAct_71 ?_ ?_
        all_goals (first | rfl | (unfold kaM incM; rw [if_pos h54]) | (unfold kaM incM; rw [if_neg h54]; rfl) | (unfold kaM incM; rw [if_pos (show 14 ≤ F 0 15 from h54)]) | (unfold kaM incM; rw [if_neg (show ¬ 14 ≤ F 0 15 from h54)]; rfl))
      · refine WP.aln (pc := 57) hC dX6_keepAct_57 rfl ?_
        refine WP.gf (pc := 58) hC dX6_keepAct_58 fl_X6_92 (by decide) rfl rfl ?_
        refine WP.iconst (pc := 61) hC dX6_keepAct_61 1 (by decide) ?_
        refine WP.iadd (pc := 62) hC dX6_keepAct_62 ?_
        refine WP.goto (pc := 63) hC dX6_keepAct_63 68 (by decide) ?_
        refine WP.pf (pc := 68) hC dX6_keepAct_68 fp_X6_92 rfl rfl (by decide) rfl rfl (Nat.le_of_ble_eq_true rfl) ?_
        refine WP.vret (pc := 71) hC rfl dX6_keepAct_71 ?_ ?_
        all_goals (first | rfl | (unfold kaM incM; rw [if_pos h54]) | (unfold kaM incM; rw [if_neg h54]; rfl) | (unfold kaM incM; rw [if_pos (show 14 ≤ F 0 15 from h54)]) | (unfold kaM incM; rw [if_neg (show ¬ 14 ≤ F 0 15 from h54)]; rfl))
    · have hk : k < 9 := (nI_ltI (b := 9) (by omega) (by decide)).mp (i_nle.mp h5)
      have hv := ih hk
      refine WP.aln (pc := 8) hC dX6_keepAct_8 rfl ?_
      refine WP.gf (pc := 9) hC dX6_keepAct_9 fl_X6_34 (by decide) rfl rfl ?_
      refine WP.bipush (pc := 12) hC dX6_keepAct_12 9 (by decide) ?_
      refine WP.aln (pc := 14) hC dX6_keepAct_14 rfl ?_
      refine WP.gf (pc := 15) hC dX6_keepAct_15 fl_X6_128 (by decide) rfl rfl ?_
      refine WP.imul (pc := 18) hC dX6_keepAct_18 ?_
      refine WP.iln (pc := 19) hC dX6_keepAct_19 rfl ?_
      refine WP.iadd (pc := 20) hC dX6_keepAct_20 ?_
      rw [show upF F 9 (ovl (F 9) (9 * nx) (F 5) k) 0 16 = nI nx from hA.1, show (9 : Int32) * nI nx = nI (9 * nx) from pk_mul 9 nx, nI_add]
      refine WP.aln (pc := 21) hC dX6_keepAct_21 rfl ?_
      refine WP.gf (pc := 22) hC dX6_keepAct_22 fl_X6_22 (by decide) rfl rfl ?_
      refine WP.iln (pc := 25) hC dX6_keepAct_25 rfl ?_
      refine WP.ial (pc := 26) hC dX6_keepAct_26 k rfl (by omega) (by decide) rfl (by decide) ?_
      refine WP.ias (pc := 27) hC dX6_keepAct_27 (9 * nx + k) rfl (by omega) (by decide) rfl rfl (by decide) ?_
      rw [show upF F 9 (ovl (F 9) (9 * nx) (F 5) k) 5 k = F 5 k from rfl, upF_up2, ovl_up]
      refine WP.iinc (lv' := [_, _]) (pc := 28) hC dX6_keepAct_28 rfl (_ + 1) rfl rfl (by decide) rfl ?_
      refine WP.goto (pc := 31) hC dX6_keepAct_31 2 (by decide) ?_
      rw [nIp1]
      exact hv
  refine WP.iconst (pc := 0) hC dX6_keepAct_0 0 (by decide) ?_
  refine WP.isn (lv' := [_, _]) (pc := 1) hC dX6_keepAct_1 rfl (by decide) rfl ?_
  have hz := loop 0 (by decide)
  rw [ovl_0, upF_self] at hz
  exact hz
set_option maxHeartbeats 4000000 in
theorem k_X6_read (l : Launch) (F : FF) (L : Int64) (nr ns nx sz : Nat) (r s : Int32) (hM : MR F nr ns) (hA : MA F nx sz) : CI l yX6_read cX6_read 3 (some .int) (rmx 4 101) wM [.ref 0, .int r, .int s] F L (rcMR F nr ns r s) (rcMF F nr ns nx r s) L := by
  refine mkI [some (.ref 0), some (.int r), some (.int s)] 0 (by decide) rfl (Nat.le_of_ble_eq_true rfl) ?_
  intro x d hx hC
  subst hx
  have hC : Cx x cX6_read 3 RX6 (some .int) (rmx 4 101) wM d := hC
  refine WP.aln (pc := 0) hC dX6_read_0 rfl ?_
  refine WP.iln (pc := 1) hC dX6_read_1 rfl ?_
  refine WP.callVI (pc := 2) hC dX6_read_2 (k_X6_isReader _ F L nr ns r hM) ml_X6_111 rfl rfl (by decide) rfl (Nat.le_of_ble_eq_true rfl) ⟨by decide, by decide⟩ ?_
  refine WP.ifeq (pc := 5) hC dX6_read_5 16 (by decide) (fun h5 => ?_) (fun h5 => ?_)
  · have hc9 : ¬ chk r nr s ns = true := by
      unfold chk
      first | (rw [b2_0] at h13; rw [h13, Bool.and_false]; decide) | (rw [b2_0] at h5; rw [h5, Bool.false_and]; decide)
    refine WP.iconst (pc := 16) hC dX6_read_16 (-1) (by decide) ?_
    refine WP.iret (pc := 17) hC rfl dX6_read_17 ?_ ?_ ?_
    all_goals (first | rfl | (unfold rcMR; rw [if_pos hc9, ei, ej, hy]; rfl) | (unfold rcMF; rw [if_pos hc9, ei, ej, hy]) | (unfold rcMR; rw [if_neg hc9]) | (unfold rcMF; rw [if_neg hc9]))
  · refine WP.aln (pc := 8) hC dX6_read_8 rfl ?_
    refine WP.iln (pc := 9) hC dX6_read_9 rfl ?_
    refine WP.callVI (pc := 10) hC dX6_read_10 (k_X6_isSample _ F L nr ns s hM) ml_X6_118 rfl rfl (by decide) rfl (Nat.le_of_ble_eq_true rfl) ⟨by decide, by decide⟩ ?_
    refine WP.ifne (pc := 13) hC dX6_read_13 18 (by decide) (fun h13 => ?_) (fun h13 => ?_)
    · rw [b2_n0] at h5 h13
      have h9 : (hasB r nr && hasB s ns) = true := by rw [h5, h13]; rfl
      obtain ⟨i, j, hi, hj, rfl, rfl⟩ := chk_of hM.2.2.1 hM.2.2.2 h9
      have hc9 : chk (nI i) nr (nI j) ns = true := h9
      have hi5 : i < 5 := by have := hM.2.2.1; omega
      have hj4 : j < 4 := by have := hM.2.2.2; omega
      have ei : ix (nI i) = i := ix_nI (by omega)
      have ej : ix (nI j) = j := ix_nI (by omega)
      refine WP.aln (pc := 18) hC dX6_read_18 rfl ?_
      refine WP.callVV (pc := 19) hC dX6_read_19 (k_X6_keepAct _ F L nx sz hA) ml_X6_131 rfl rfl (by decide) rfl (Nat.le_of_ble_eq_true rfl) ⟨by decide, by decide⟩ ?_
      refine WP.aln (pc := 22) hC dX6_read_22 rfl ?_
      refine WP.iconst (pc := 23) hC dX6_read_23 0 (by decide) ?_
      refine WP.iln (pc := 24) hC dX6_read_24 rfl ?_
      refine WP.iln (pc := 25) hC dX6_read_25 rfl ?_
      refine WP.callVI (pc := 26) hC dX6_read_26 (k_X6_readOn _ (kaM F nx) L 0 i j (by decide) hi5 hj4) ml_X6_134 rfl rfl (by decide) rfl (Nat.le_of_ble_eq_true rfl) ⟨by decide, by decide⟩ ?_
      rw [sayM_ka]
      generalize hy : sayM F 0 j i = y
      refine WP.ifeq (pc := 29) hC dX6_read_29 36 (by decide) (fun h29 => ?_) (fun h29 => ?_)
      · rw [b2_0] at h29
        subst h29
        refine WP.iconst (pc := 36) hC dX6_read_36 0 (by decide) ?_
        refine WP.iret (pc := 37) hC rfl dX6_read_37 ?_ ?_ ?_
        all_goals (first | rfl | (unfold rcMR; rw [if_pos hc9, ei, ej, hy]; rfl) | (unfold rcMF; rw [if_pos hc9, ei, ej, hy]) | (unfold rcMR; rw [if_neg hc9]) | (unfold rcMF; rw [if_neg hc9]))
      · rw [b2_n0] at h29
        subst h29
        refine WP.iconst (pc := 32) hC dX6_read_32 1 (by decide) ?_
        refine WP.goto (pc := 33) hC dX6_read_33 37 (by decide) ?_
        refine WP.iret (pc := 37) hC rfl dX6_read_37 ?_ ?_ ?_
        all_goals (first | rfl | (unfold rcMR; rw [if_pos hc9, ei, ej, hy]; rfl) | (unfold rcMF; rw [if_pos hc9, ei, ej, hy]) | (unfold rcMR; rw [if_neg hc9]) | (unfold rcMF; rw [if_neg hc9]))
    · have hc9 : ¬ chk r nr s ns = true := by
        unfold chk
        first | (rw [b2_0] at h13; rw [h13, Bool.and_false]; decide) | (rw [b2_0] at h5; rw [h5, Bool.false_and]; decide)
      refine WP.iconst (pc := 16) hC dX6_read_16 (-1) (by decide) ?_
      refine WP.iret (pc := 17) hC rfl dX6_read_17 ?_ ?_ ?_
      all_goals (first | rfl | (unfold rcMR; rw [if_pos hc9, ei, ej, hy]; rfl) | (unfold rcMF; rw [if_pos hc9, ei, ej, hy]) | (unfold rcMR; rw [if_neg hc9]) | (unfold rcMF; rw [if_neg hc9]))
set_option maxHeartbeats 4000000 in
theorem k_X6_rest (l : Launch) (F : FF) (L : Int64) (nr ns nx sz : Nat) (r : Int32) (hM : MR F nr ns) (hA : MA F nx sz) : CI l yX6_rest cX6_rest 3 (some .int) (rmx 2 46) wM [.ref 0, .int r] F L (rsMR F nr r) (rsMF F nr nx r) L := by
  refine mkI [some (.ref 0), some (.int r), none] 1 (by decide) rfl (Nat.le_of_ble_eq_true rfl) ?_
  intro x d hx hC
  subst hx
  have hC : Cx x cX6_rest 3 RX6 (some .int) (rmx 2 46) wM d := hC
  refine WP.aln (pc := 0) hC dX6_rest_0 rfl ?_
  refine WP.iln (pc := 1) hC dX6_rest_1 rfl ?_
  refine WP.callVI (pc := 2) hC dX6_rest_2 (k_X6_isReader _ F L nr ns r hM) ml_X6_111 rfl rfl (by decide) rfl (Nat.le_of_ble_eq_true rfl) ⟨by decide, by decide⟩ ?_
  refine WP.ifne (pc := 5) hC dX6_rest_5 10 (by decide) (fun h5 => ?_) (fun h5 => ?_)
  · rw [b2_n0] at h5
    obtain ⟨i, hi, rfl⟩ := hasB_of hM.2.2.1 h5
    have hi5 : i < 5 := by have := hM.2.2.1; omega
    have ei : ix (nI i) = i := ix_nI (by omega)
    refine WP.aln (pc := 10) hC dX6_rest_10 rfl ?_
    refine WP.gf (pc := 11) hC dX6_rest_11 fl_X6_22 (by decide) rfl rfl ?_
    refine WP.iln (pc := 14) hC dX6_rest_14 rfl ?_
    refine WP.ial (pc := 15) hC dX6_rest_15 i rfl (by omega) (by decide) rfl (by decide) ?_
    refine WP.isn (lv' := [_, _, _]) (pc := 16) hC dX6_rest_16 rfl (by decide) rfl ?_
    refine WP.iln (pc := 17) hC dX6_rest_17 rfl ?_
    refine WP.ifne (pc := 18) hC dX6_rest_18 24 (by decide) (fun h18 => ?_) (fun h18 => ?_)
    · refine WP.aln (pc := 24) hC dX6_rest_24 rfl ?_
      refine WP.callVV (pc := 25) hC dX6_rest_25 (k_X6_keepAct _ F L nx sz hA) ml_X6_131 rfl rfl (by decide) rfl (Nat.le_of_ble_eq_true rfl) ⟨by decide, by decide⟩ ?_
      refine WP.aln (pc := 28) hC dX6_rest_28 rfl ?_
      refine WP.gf (pc := 29) hC dX6_rest_29 fl_X6_22 (by decide) rfl rfl ?_
      refine WP.iln (pc := 32) hC dX6_rest_32 rfl ?_
      refine WP.iconst (pc := 33) hC dX6_rest_33 0 (by decide) ?_
      refine WP.ias (pc := 34) hC dX6_rest_34 i rfl (by omega) (by decide) rfl rfl (by decide) ?_
      refine WP.iln (pc := 35) hC dX6_rest_35 rfl ?_
      refine WP.iret (pc := 36) hC rfl dX6_rest_36 ?_ ?_ ?_
      all_goals (first | rfl | (unfold rsMR; rw [if_pos h5, ei, if_neg h18]) | (unfold rsMF; rw [if_pos h5, ei, if_neg h18]) | (unfold rsMR; rw [if_pos h5, ei, if_pos h18]) | (unfold rsMF; rw [if_pos h5, ei, if_pos h18]) | (unfold rsMR; rw [if_neg (by rw [h5]; decide)]) | (unfold rsMF; rw [if_neg (by rw [h5]; decide)]))
    · refine WP.bipush (pc := 21) hC dX6_rest_21 (-3) (by decide) ?_
      refine WP.iret (pc := 23) hC rfl dX6_rest_23 ?_ ?_ ?_
      all_goals (first | rfl | (unfold rsMR; rw [if_pos h5, ei, if_neg h18]) | (unfold rsMF; rw [if_pos h5, ei, if_neg h18]) | (unfold rsMR; rw [if_pos h5, ei, if_pos h18]) | (unfold rsMF; rw [if_pos h5, ei, if_pos h18]) | (unfold rsMR; rw [if_neg (by rw [h5]; decide)]) | (unfold rsMF; rw [if_neg (by rw [h5]; decide)]))
  · rw [b2_0] at h5
    refine WP.iconst (pc := 8) hC dX6_rest_8 (-1) (by decide) ?_
    refine WP.iret (pc := 9) hC rfl dX6_rest_9 ?_ ?_ ?_
    all_goals (first | rfl | (unfold rsMR; rw [if_pos h5, ei, if_neg h18]) | (unfold rsMF; rw [if_pos h5, ei, if_neg h18]) | (unfold rsMR; rw [if_pos h5, ei, if_pos h18]) | (unfold rsMF; rw [if_pos h5, ei, if_pos h18]) | (unfold rsMR; rw [if_neg (by rw [h5]; decide)]) | (unfold rsMF; rw [if_neg (by rw [h5]; decide)]))
theorem shP : ∀ i, i < 5 → ∀ j, j < 4 → (1 : Int32) <<< (nI (4 * i + j) &&& 31) = ppr i j := by decide
set_option maxHeartbeats 4000000 in
theorem k_X6_withdraw (l : Launch) (F : FF) (L : Int64) (nr ns nx sz : Nat) (r s : Int32) (hM : MR F nr ns) (hA : MA F nx sz) : CI l yX6_withdraw cX6_withdraw 5 (some .int) (rmx 2 46) wM [.ref 0, .int r, .int s] F L (wdMR F nr ns r s) (wdMF F nr ns nx r s) L := by
  refine mkI [some (.ref 0), some (.int r), some (.int s), none, none] 2 (by decide) rfl (Nat.le_of_ble_eq_true rfl) ?_
  intro x d hx hC
  subst hx
  have hC : Cx x cX6_withdraw 5 RX6 (some .int) (rmx 2 46) wM d := hC
  refine WP.aln (pc := 0) hC dX6_withdraw_0 rfl ?_
  refine WP.iln (pc := 1) hC dX6_withdraw_1 rfl ?_
  refine WP.callVI (pc := 2) hC dX6_withdraw_2 (k_X6_isReader _ F L nr ns r hM) ml_X6_111 rfl rfl (by decide) rfl (Nat.le_of_ble_eq_true rfl) ⟨by decide, by decide⟩ ?_
  refine WP.ifeq (pc := 5) hC dX6_withdraw_5 16 (by decide) (fun h5 => ?_) (fun h5 => ?_)
  · have hc9 : ¬ chk r nr s ns = true := by
      unfold chk
      first | (rw [b2_0] at h13; rw [h13, Bool.and_false]; decide) | (rw [b2_0] at h5; rw [h5, Bool.false_and]; decide)
    refine WP.iconst (pc := 16) hC dX6_withdraw_16 (-1) (by decide) ?_
    refine WP.iret (pc := 17) hC rfl dX6_withdraw_17 ?_ ?_ ?_
    all_goals (first | rfl | (unfold wdMR; rw [if_pos hc9, ei, ej, if_pos ho, hy, h93]; rfl) | (unfold wdMF; rw [if_pos hc9, ei, ej, if_pos ho]; rfl) | (unfold wdMR; rw [if_pos hc9, ei, ej, if_neg ho]) | (unfold wdMF; rw [if_pos hc9, ei, ej, if_neg ho]) | (unfold wdMR; rw [if_neg hc9]) | (unfold wdMF; rw [if_neg hc9]))
  · refine WP.aln (pc := 8) hC dX6_withdraw_8 rfl ?_
    refine WP.iln (pc := 9) hC dX6_withdraw_9 rfl ?_
    refine WP.callVI (pc := 10) hC dX6_withdraw_10 (k_X6_isSample _ F L nr ns s hM) ml_X6_118 rfl rfl (by decide) rfl (Nat.le_of_ble_eq_true rfl) ⟨by decide, by decide⟩ ?_
    refine WP.ifne (pc := 13) hC dX6_withdraw_13 18 (by decide) (fun h13 => ?_) (fun h13 => ?_)
    · rw [b2_n0] at h5 h13
      have h9 : (hasB r nr && hasB s ns) = true := by rw [h5, h13]; rfl
      obtain ⟨i, j, hi, hj, rfl, rfl⟩ := chk_of hM.2.2.1 hM.2.2.2 h9
      have hc9 : chk (nI i) nr (nI j) ns = true := h9
      have hi5 : i < 5 := by have := hM.2.2.1; omega
      have hj4 : j < 4 := by have := hM.2.2.2; omega
      have ei : ix (nI i) = i := ix_nI (by omega)
      have ej : ix (nI j) = j := ix_nI (by omega)
      refine WP.iconst (pc := 18) hC dX6_withdraw_18 4 (by decide) ?_
      refine WP.iln (pc := 19) hC dX6_withdraw_19 rfl ?_
      refine WP.imul (pc := 20) hC dX6_withdraw_20 ?_
      refine WP.iln (pc := 21) hC dX6_withdraw_21 rfl ?_
      refine WP.iadd (pc := 22) hC dX6_withdraw_22 ?_
      rw [nI4, nI_add]
      refine WP.isn (lv' := [_, _, _, _, _]) (pc := 23) hC dX6_withdraw_23 rfl (by decide) rfl ?_
      refine WP.aln (pc := 24) hC dX6_withdraw_24 rfl ?_
      refine WP.gf (pc := 25) hC dX6_withdraw_25 fl_X6_22 (by decide) rfl rfl ?_
      refine WP.iconst (pc := 28) hC dX6_withdraw_28 5 (by decide) ?_
      refine WP.ial (pc := 29) hC dX6_withdraw_29 5 rfl (by decide) (by decide) rfl (by decide) ?_
      refine WP.iln (pc := 30) hC dX6_withdraw_30 rfl ?_
      refine WP.callSI (pc := 31) hC dX6_withdraw_31 (k_X6_has _ F L wM _ _) ml_X6_115 rfl rfl (Nat.le_of_ble_eq_true rfl) ⟨by decide, by decide⟩ ?_
      refine WP.is (lv' := [_, _, _, _, _]) (pc := 34) hC dX6_withdraw_34 rfl (by decide) rfl ?_
      generalize hy : hasT (F 5 5) (nI (4 * i + j)) = y
      refine WP.il (pc := 36) hC dX6_withdraw_36 rfl ?_
      refine WP.ifne (pc := 38) hC dX6_withdraw_38 58 (by decide) (fun h38 => ?_) (fun h38 => ?_)
      · have ho : (hasT (F 5 5) (nI (4 * i + j)) || hasT (F 5 6) (nI (4 * i + j))) = true := by
          first | (rw [b2_n0] at h52; rw [hn, h52, Bool.or_true]) | (rw [b2_n0] at h38; rw [hy, h38, Bool.true_or])
        refine WP.aln (pc := 58) hC dX6_withdraw_58 rfl ?_
        refine WP.callVV (pc := 59) hC dX6_withdraw_59 (k_X6_keepAct _ F L nx sz hA) ml_X6_131 rfl rfl (by decide) rfl (Nat.le_of_ble_eq_true rfl) ⟨by decide, by decide⟩ ?_
        refine WP.aln (pc := 62) hC dX6_withdraw_62 rfl ?_
        refine WP.gf (pc := 63) hC dX6_withdraw_63 fl_X6_22 (by decide) rfl rfl ?_
        refine WP.iconst (pc := 66) hC dX6_withdraw_66 5 (by decide) ?_
        refine WP.dup2 (pc := 67) hC dX6_withdraw_67 rfl rfl ?_
        refine WP.ial (pc := 68) hC dX6_withdraw_68 5 rfl (by decide) (by decide) rfl (by decide) ?_
        refine WP.iconst (pc := 69) hC dX6_withdraw_69 1 (by decide) ?_
        refine WP.iln (pc := 70) hC dX6_withdraw_70 rfl ?_
        refine WP.ishl (pc := 71) hC dX6_withdraw_71 ?_
        rw [shP i hi5 j hj4]
        refine WP.iconst (pc := 72) hC dX6_withdraw_72 (-1) (by decide) ?_
        refine WP.ixor (pc := 73) hC dX6_withdraw_73 ?_
        refine WP.iand (pc := 74) hC dX6_withdraw_74 ?_
        refine WP.ias (pc := 75) hC dX6_withdraw_75 5 rfl (by decide) (by decide) rfl rfl (by decide) ?_
        refine WP.aln (pc := 76) hC dX6_withdraw_76 rfl ?_
        refine WP.gf (pc := 77) hC dX6_withdraw_77 fl_X6_22 (by decide) rfl rfl ?_
        refine WP.bipush (pc := 80) hC dX6_withdraw_80 6 (by decide) ?_
        refine WP.dup2 (pc := 82) hC dX6_withdraw_82 rfl rfl ?_
        refine WP.ial (pc := 83) hC dX6_withdraw_83 6 rfl (by decide) (by decide) rfl (by decide) ?_
        refine WP.iconst (pc := 84) hC dX6_withdraw_84 1 (by decide) ?_
        refine WP.iln (pc := 85) hC dX6_withdraw_85 rfl ?_
        refine WP.ishl (pc := 86) hC dX6_withdraw_86 ?_
        rw [shP i hi5 j hj4]
        refine WP.iconst (pc := 87) hC dX6_withdraw_87 (-1) (by decide) ?_
        refine WP.ixor (pc := 88) hC dX6_withdraw_88 ?_
        refine WP.iand (pc := 89) hC dX6_withdraw_89 ?_
        refine WP.ias (pc := 90) hC dX6_withdraw_90 6 rfl (by decide) (by decide) rfl rfl (by decide) ?_
        refine WP.il (pc := 91) hC dX6_withdraw_91 rfl ?_
        refine WP.ifeq (pc := 93) hC dX6_withdraw_93 100 (by decide) (fun h93 => ?_) (fun h93 => ?_)
        · rw [b2_0] at h93
          refine WP.iconst (pc := 100) hC dX6_withdraw_100 0 (by decide) ?_
          refine WP.iret (pc := 101) hC rfl dX6_withdraw_101 ?_ ?_ ?_
          all_goals (first | rfl | (unfold wdMR; rw [if_pos hc9, ei, ej, if_pos ho, hy, h93]; rfl) | (unfold wdMF; rw [if_pos hc9, ei, ej, if_pos ho]; rfl) | (unfold wdMR; rw [if_pos hc9, ei, ej, if_neg ho]) | (unfold wdMF; rw [if_pos hc9, ei, ej, if_neg ho]) | (unfold wdMR; rw [if_neg hc9]) | (unfold wdMF; rw [if_neg hc9]))
        · rw [b2_n0] at h93
          refine WP.iconst (pc := 96) hC dX6_withdraw_96 1 (by decide) ?_
          refine WP.goto (pc := 97) hC dX6_withdraw_97 101 (by decide) ?_
          refine WP.iret (pc := 101) hC rfl dX6_withdraw_101 ?_ ?_ ?_
          all_goals (first | rfl | (unfold wdMR; rw [if_pos hc9, ei, ej, if_pos ho, hy, h93]; rfl) | (unfold wdMF; rw [if_pos hc9, ei, ej, if_pos ho]; rfl) | (unfold wdMR; rw [if_pos hc9, ei, ej, if_neg ho]) | (unfold wdMF; rw [if_pos hc9, ei, ej, if_neg ho]) | (unfold wdMR; rw [if_neg hc9]) | (unfold wdMF; rw [if_neg hc9]))
      · refine WP.aln (pc := 41) hC dX6_withdraw_41 rfl ?_
        refine WP.gf (pc := 42) hC dX6_withdraw_42 fl_X6_22 (by decide) rfl rfl ?_
        refine WP.bipush (pc := 45) hC dX6_withdraw_45 6 (by decide) ?_
        refine WP.ial (pc := 47) hC dX6_withdraw_47 6 rfl (by decide) (by decide) rfl (by decide) ?_
        refine WP.iln (pc := 48) hC dX6_withdraw_48 rfl ?_
        refine WP.callSI (pc := 49) hC dX6_withdraw_49 (k_X6_has _ F L wM _ _) ml_X6_115 rfl rfl (Nat.le_of_ble_eq_true rfl) ⟨by decide, by decide⟩ ?_
        generalize hn : hasT (F 5 6) (nI (4 * i + j)) = n6
        refine WP.ifne (pc := 52) hC dX6_withdraw_52 58 (by decide) (fun h52 => ?_) (fun h52 => ?_)
        · have ho : (hasT (F 5 5) (nI (4 * i + j)) || hasT (F 5 6) (nI (4 * i + j))) = true := by
            first | (rw [b2_n0] at h52; rw [hn, h52, Bool.or_true]) | (rw [b2_n0] at h38; rw [hy, h38, Bool.true_or])
          refine WP.aln (pc := 58) hC dX6_withdraw_58 rfl ?_
          refine WP.callVV (pc := 59) hC dX6_withdraw_59 (k_X6_keepAct _ F L nx sz hA) ml_X6_131 rfl rfl (by decide) rfl (Nat.le_of_ble_eq_true rfl) ⟨by decide, by decide⟩ ?_
          refine WP.aln (pc := 62) hC dX6_withdraw_62 rfl ?_
          refine WP.gf (pc := 63) hC dX6_withdraw_63 fl_X6_22 (by decide) rfl rfl ?_
          refine WP.iconst (pc := 66) hC dX6_withdraw_66 5 (by decide) ?_
          refine WP.dup2 (pc := 67) hC dX6_withdraw_67 rfl rfl ?_
          refine WP.ial (pc := 68) hC dX6_withdraw_68 5 rfl (by decide) (by decide) rfl (by decide) ?_
          refine WP.iconst (pc := 69) hC dX6_withdraw_69 1 (by decide) ?_
          refine WP.iln (pc := 70) hC dX6_withdraw_70 rfl ?_
          refine WP.ishl (pc := 71) hC dX6_withdraw_71 ?_
          rw [shP i hi5 j hj4]
          refine WP.iconst (pc := 72) hC dX6_withdraw_72 (-1) (by decide) ?_
          refine WP.ixor (pc := 73) hC dX6_withdraw_73 ?_
          refine WP.iand (pc := 74) hC dX6_withdraw_74 ?_
          refine WP.ias (pc := 75) hC dX6_withdraw_75 5 rfl (by decide) (by decide) rfl rfl (by decide) ?_
          refine WP.aln (pc := 76) hC dX6_withdraw_76 rfl ?_
          refine WP.gf (pc := 77) hC dX6_withdraw_77 fl_X6_22 (by decide) rfl rfl ?_
          refine WP.bipush (pc := 80) hC dX6_withdraw_80 6 (by decide) ?_
          refine WP.dup2 (pc := 82) hC dX6_withdraw_82 rfl rfl ?_
          refine WP.ial (pc := 83) hC dX6_withdraw_83 6 rfl (by decide) (by decide) rfl (by decide) ?_
          refine WP.iconst (pc := 84) hC dX6_withdraw_84 1 (by decide) ?_
          refine WP.iln (pc := 85) hC dX6_withdraw_85 rfl ?_
          refine WP.ishl (pc := 86) hC dX6_withdraw_86 ?_
          rw [shP i hi5 j hj4]
          refine WP.iconst (pc := 87) hC dX6_withdraw_87 (-1) (by decide) ?_
          refine WP.ixor (pc := 88) hC dX6_withdraw_88 ?_
          refine WP.iand (pc := 89) hC dX6_withdraw_89 ?_
          refine WP.ias (pc := 90) hC dX6_withdraw_90 6 rfl (by decide) (by decide) rfl rfl (by decide) ?_
          refine WP.il (pc := 91) hC dX6_withdraw_91 rfl ?_
          refine WP.ifeq (pc := 93) hC dX6_withdraw_93 100 (by decide) (fun h93 => ?_) (fun h93 => ?_)
          · rw [b2_0] at h93
            refine WP.iconst (pc := 100) hC dX6_withdraw_100 0 (by decide) ?_
            refine WP.iret (pc := 101) hC rfl dX6_withdraw_101 ?_ ?_ ?_
            all_goals (first | rfl | (unfold wdMR; rw [if_pos hc9, ei, ej, if_pos ho, hy, h93]; rfl) | (unfold wdMF; rw [if_pos hc9, ei, ej, if_pos ho]; rfl) | (unfold wdMR; rw [if_pos hc9, ei, ej, if_neg ho]) | (unfold wdMF; rw [if_pos hc9, ei, ej, if_neg ho]) | (unfold wdMR; rw [if_neg hc9]) | (unfold wdMF; rw [if_neg hc9]))
          · rw [b2_n0] at h93
            refine WP.iconst (pc := 96) hC dX6_withdraw_96 1 (by decide) ?_
            refine WP.goto (pc := 97) hC dX6_withdraw_97 101 (by decide) ?_
            refine WP.iret (pc := 101) hC rfl dX6_withdraw_101 ?_ ?_ ?_
            all_goals (first | rfl | (unfold wdMR; rw [if_pos hc9, ei, ej, if_pos ho, hy, h93]; rfl) | (unfold wdMF; rw [if_pos hc9, ei, ej, if_pos ho]; rfl) | (unfold wdMR; rw [if_pos hc9, ei, ej, if_neg ho]) | (unfold wdMF; rw [if_pos hc9, ei, ej, if_neg ho]) | (unfold wdMR; rw [if_neg hc9]) | (unfold wdMF; rw [if_neg hc9]))
        · rw [b2_0] at h38 h52
          have ho : ¬ (hasT (F 5 5) (nI (4 * i + j)) || hasT (F 5 6) (nI (4 * i + j))) = true := by rw [hy, hn, h38, h52]; decide
          refine WP.bipush (pc := 55) hC dX6_withdraw_55 (-3) (by decide) ?_
          refine WP.iret (pc := 57) hC rfl dX6_withdraw_57 ?_ ?_ ?_
          all_goals (first | rfl | (unfold wdMR; rw [if_pos hc9, ei, ej, if_pos ho, hy, h93]; rfl) | (unfold wdMF; rw [if_pos hc9, ei, ej, if_pos ho]; rfl) | (unfold wdMR; rw [if_pos hc9, ei, ej, if_neg ho]) | (unfold wdMF; rw [if_pos hc9, ei, ej, if_neg ho]) | (unfold wdMR; rw [if_neg hc9]) | (unfold wdMF; rw [if_neg hc9]))
    · have hc9 : ¬ chk r nr s ns = true := by
        unfold chk
        first | (rw [b2_0] at h13; rw [h13, Bool.and_false]; decide) | (rw [b2_0] at h5; rw [h5, Bool.false_and]; decide)
      refine WP.iconst (pc := 16) hC dX6_withdraw_16 (-1) (by decide) ?_
      refine WP.iret (pc := 17) hC rfl dX6_withdraw_17 ?_ ?_ ?_
      all_goals (first | rfl | (unfold wdMR; rw [if_pos hc9, ei, ej, if_pos ho, hy, h93]; rfl) | (unfold wdMF; rw [if_pos hc9, ei, ej, if_pos ho]; rfl) | (unfold wdMR; rw [if_pos hc9, ei, ej, if_neg ho]) | (unfold wdMF; rw [if_pos hc9, ei, ej, if_neg ho]) | (unfold wdMR; rw [if_neg hc9]) | (unfold wdMF; rw [if_neg hc9]))
set_option maxHeartbeats 4000000 in
theorem k_X6_prism (l : Launch) (F : FF) (L : Int64) (nx sz : Nat) (hA : MA F nx sz) : CI l yX6_prism cX6_prism 1 (some .int) (rmx 1 21) wM [.ref 0] F L (1 - F 5 7) (up2 (kaM F nx) 5 7 (1 - F 5 7)) L := by
  refine mkI [some (.ref 0)] 0 (by decide) rfl (Nat.le_of_ble_eq_true rfl) ?_
  intro x d hx hC
  subst hx
  have hC : Cx x cX6_prism 1 RX6 (some .int) (rmx 1 21) wM d := hC
  refine WP.aln (pc := 0) hC dX6_prism_0 rfl ?_
  refine WP.callVV (pc := 1) hC dX6_prism_1 (k_X6_keepAct _ F L nx sz hA) ml_X6_131 rfl rfl (by decide) rfl (Nat.le_of_ble_eq_true rfl) ⟨by decide, by decide⟩ ?_
  refine WP.aln (pc := 4) hC dX6_prism_4 rfl ?_
  refine WP.gf (pc := 5) hC dX6_prism_5 fl_X6_22 (by decide) rfl rfl ?_
  refine WP.bipush (pc := 8) hC dX6_prism_8 7 (by decide) ?_
  refine WP.iconst (pc := 10) hC dX6_prism_10 1 (by decide) ?_
  refine WP.aln (pc := 11) hC dX6_prism_11 rfl ?_
  refine WP.gf (pc := 12) hC dX6_prism_12 fl_X6_22 (by decide) rfl rfl ?_
  refine WP.bipush (pc := 15) hC dX6_prism_15 7 (by decide) ?_
  refine WP.ial (pc := 17) hC dX6_prism_17 7 rfl (by decide) (by decide) rfl (by decide) ?_
  refine WP.isub (pc := 18) hC dX6_prism_18 ?_
  refine WP.ias (pc := 19) hC dX6_prism_19 7 rfl (by decide) (by decide) rfl rfl (by decide) ?_
  refine WP.aln (pc := 20) hC dX6_prism_20 rfl ?_
  refine WP.gf (pc := 21) hC dX6_prism_21 fl_X6_22 (by decide) rfl rfl ?_
  refine WP.bipush (pc := 24) hC dX6_prism_24 7 (by decide) ?_
  refine WP.ial (pc := 26) hC dX6_prism_26 7 rfl (by decide) (by decide) rfl (by decide) ?_
  refine WP.iret (pc := 27) hC rfl dX6_prism_27 ?_ ?_ ?_
  all_goals (rfl)
set_option maxHeartbeats 4000000 in
theorem k_X6_tell (l : Launch) (F : FF) (L : Int64) (nx sz : Nat) (hA : MA F nx sz) : CI l yX6_tell cX6_tell 1 (some .int) (rmx 1 21) wM [.ref 0] F L (1 - F 5 8) (up2 (kaM F nx) 5 8 (1 - F 5 8)) L := by
  refine mkI [some (.ref 0)] 0 (by decide) rfl (Nat.le_of_ble_eq_true rfl) ?_
  intro x d hx hC
  subst hx
  have hC : Cx x cX6_tell 1 RX6 (some .int) (rmx 1 21) wM d := hC
  refine WP.aln (pc := 0) hC dX6_tell_0 rfl ?_
  refine WP.callVV (pc := 1) hC dX6_tell_1 (k_X6_keepAct _ F L nx sz hA) ml_X6_131 rfl rfl (by decide) rfl (Nat.le_of_ble_eq_true rfl) ⟨by decide, by decide⟩ ?_
  refine WP.aln (pc := 4) hC dX6_tell_4 rfl ?_
  refine WP.gf (pc := 5) hC dX6_tell_5 fl_X6_22 (by decide) rfl rfl ?_
  refine WP.bipush (pc := 8) hC dX6_tell_8 8 (by decide) ?_
  refine WP.iconst (pc := 10) hC dX6_tell_10 1 (by decide) ?_
  refine WP.aln (pc := 11) hC dX6_tell_11 rfl ?_
  refine WP.gf (pc := 12) hC dX6_tell_12 fl_X6_22 (by decide) rfl rfl ?_
  refine WP.bipush (pc := 15) hC dX6_tell_15 8 (by decide) ?_
  refine WP.ial (pc := 17) hC dX6_tell_17 8 rfl (by decide) (by decide) rfl (by decide) ?_
  refine WP.isub (pc := 18) hC dX6_tell_18 ?_
  refine WP.ias (pc := 19) hC dX6_tell_19 8 rfl (by decide) (by decide) rfl rfl (by decide) ?_
  refine WP.aln (pc := 20) hC dX6_tell_20 rfl ?_
  refine WP.gf (pc := 21) hC dX6_tell_21 fl_X6_22 (by decide) rfl rfl ?_
  refine WP.bipush (pc := 24) hC dX6_tell_24 8 (by decide) ?_
  refine WP.ial (pc := 26) hC dX6_tell_26 8 rfl (by decide) (by decide) rfl (by decide) ?_
  refine WP.iret (pc := 27) hC rfl dX6_tell_27 ?_ ?_ ?_
  all_goals (rfl)
set_option maxHeartbeats 4000000 in
theorem k_X6_undo (l : Launch) (F : FF) (L : Int64) (nx sz : Nat) (hA : MA F nx sz) : CI l yX6_undo cX6_undo 2 (some .int) (rmx 0 0) wM [.ref 0] F L (if F 0 15 = 0 then -3 else F 0 15 - 1) (if F 0 15 = 0 then F else undM F nx) L := by
  refine mkI [some (.ref 0), none] 1 (by decide) rfl (Nat.le_of_ble_eq_true rfl) ?_
  intro x d hx hC
  subst hx
  have hC : Cx x cX6_undo 2 RX6 (some .int) (rmx 0 0) wM d := hC
  have hx := hA.2.2.1
  refine WP.aln (pc := 0) hC dX6_undo_0 rfl ?_
  refine WP.gf (pc := 1) hC dX6_undo_1 fl_X6_92 (by decide) rfl rfl ?_
  refine WP.ifne (pc := 4) hC dX6_undo_4 10 (by decide) (fun h4 => ?_) (fun h4 => ?_)
  · obtain ⟨pn, hpn⟩ : ∃ pn, pn = (nx + 13) % 14 := ⟨_, rfl⟩
    have hp14 : pn < 14 := by omega
    have loop : ∀ k, k ≤ 9 → WP x 2 wM d (QI x wM d (F 0 15 - 1) (undM F nx) L) 36 [some (.ref 0), some (.int (nI k))] [] (upF (up2 (up2 F 0 15 (F 0 15 - 1)) 0 16 (nI pn)) 5 (ovl (F 5) 0 (fun k => F 9 (9 * pn + k)) k)) L := by
      refine loop_c (n := 9) (P := fun k => WP x 2 wM d (QI x wM d (F 0 15 - 1) (undM F nx) L) 36 [some (.ref 0), some (.int (nI k))] [] (upF (up2 (up2 F 0 15 (F 0 15 - 1)) 0 16 (nI pn)) 5 (ovl (F 5) 0 (fun k => F 9 (9 * pn + k)) k)) L) ?_
      intro k hk0 ih
      refine WP.iln (pc := 36) hC dX6_undo_36 rfl ?_
      refine WP.bipush (pc := 37) hC dX6_undo_37 9 (by decide) ?_
      refine WP.icge (pc := 39) hC dX6_undo_39 68 (by decide) (fun h39 => ?_) (fun h39 => ?_)
      · have hk9 : k = 9 := by
          have := (nI_leI (a := 9) (by decide) (by omega)).mp h39
          omega
        subst hk9
        refine WP.aln (pc := 68) hC dX6_undo_68 rfl ?_
        refine WP.gf (pc := 69) hC dX6_undo_69 fl_X6_92 (by decide) rfl rfl ?_
        refine WP.iret (pc := 72) hC rfl dX6_undo_72 ?_ ?_ ?_
        all_goals (first | rfl | (unfold undM; rw [hpn]))
      · have hk : k < 9 := (nI_ltI (b := 9) (by omega) (by decide)).mp (i_nle.mp h39)
        have hv := ih hk
        refine WP.aln (pc := 42) hC dX6_undo_42 rfl ?_
        refine WP.gf (pc := 43) hC dX6_undo_43 fl_X6_22 (by decide) rfl rfl ?_
        refine WP.iln (pc := 46) hC dX6_undo_46 rfl ?_
        refine WP.aln (pc := 47) hC dX6_undo_47 rfl ?_
        refine WP.gf (pc := 48) hC dX6_undo_48 fl_X6_34 (by decide) rfl rfl ?_
        refine WP.bipush (pc := 51) hC dX6_undo_51 9 (by decide) ?_
        refine WP.aln (pc := 53) hC dX6_undo_53 rfl ?_
        refine WP.gf (pc := 54) hC dX6_undo_54 fl_X6_128 (by decide) rfl rfl ?_
        refine WP.imul (pc := 57) hC dX6_undo_57 ?_
        refine WP.iln (pc := 58) hC dX6_undo_58 rfl ?_
        refine WP.iadd (pc := 59) hC dX6_undo_59 ?_
        change WP _ _ _ _ _ _ _ (.int ((9 : Int32) * nI pn + nI k) :: _) _ _
        rw [show (9 : Int32) * nI pn = nI (9 * pn) from pk_mul 9 pn, nI_add]
        refine WP.ial (pc := 60) hC dX6_undo_60 (9 * pn + k) rfl (by omega) (by decide) rfl (by decide) ?_
        refine WP.ias (pc := 61) hC dX6_undo_61 k rfl (by omega) (by decide) rfl rfl (by decide) ?_
        rw [upF_up2]
        have hu := ovl_up (f := F 5) (b := 0) (g := fun k => F 9 (9 * pn + k)) (n := k)
        rw [Nat.zero_add] at hu
        change WP _ _ _ _ _ _ _ _ (upF _ _ (upd _ _ ((fun k => F 9 (9 * pn + k)) k))) _
        rw [hu]
        refine WP.iinc (lv' := [_, _]) (pc := 62) hC dX6_undo_62 rfl (_ + 1) rfl rfl (by decide) rfl ?_
        refine WP.goto (pc := 65) hC dX6_undo_65 36 (by decide) ?_
        rw [nIp1]
        exact hv
    rw [if_neg h4, if_neg h4]
    refine WP.aln (pc := 10) hC dX6_undo_10 rfl ?_
    refine WP.dup (pc := 11) hC dX6_undo_11 rfl ?_
    refine WP.gf (pc := 12) hC dX6_undo_12 fl_X6_92 (by decide) rfl rfl ?_
    refine WP.iconst (pc := 15) hC dX6_undo_15 1 (by decide) ?_
    refine WP.isub (pc := 16) hC dX6_undo_16 ?_
    refine WP.pf (pc := 17) hC dX6_undo_17 fp_X6_92 rfl rfl (by decide) rfl rfl (Nat.le_of_ble_eq_true rfl) ?_
    refine WP.aln (pc := 20) hC dX6_undo_20 rfl ?_
    refine WP.aln (pc := 21) hC dX6_undo_21 rfl ?_
    refine WP.gf (pc := 22) hC dX6_undo_22 fl_X6_128 (by decide) rfl rfl ?_
    refine WP.bipush (pc := 25) hC dX6_undo_25 13 (by decide) ?_
    refine WP.iadd (pc := 27) hC dX6_undo_27 ?_
    refine WP.bipush (pc := 28) hC dX6_undo_28 14 (by decide) ?_
    change WP _ _ _ _ _ _ _ (_ :: .int (F 0 16 + 13) :: _) _ _
    rw [hA.1, show nI nx + 13 = nI (nx + 13) from nI_add _ 13]
    refine WP.irem (pc := 30) hC dX6_undo_30 (by decide) ?_
    rw [show nI (nx + 13) - nI (nx + 13) / 14 * 14 = nI pn from by rw [hpn]; exact pk_rem (d := 14) (by omega) (by decide) (by decide)]
    refine WP.pf (pc := 31) hC dX6_undo_31 fp_X6_128 rfl rfl (by decide) rfl rfl (Nat.le_of_ble_eq_true rfl) ?_
    refine WP.iconst (pc := 34) hC dX6_undo_34 0 (by decide) ?_
    refine WP.isn (lv' := [_, _]) (pc := 35) hC dX6_undo_35 rfl (by decide) rfl ?_
    have hz := loop 0 (by decide)
    rw [ovl_0, show F 5 = up2 (up2 F 0 15 (F 0 15 - 1)) 0 16 (nI pn) 5 from rfl, upF_self] at hz
    exact hz
  · refine WP.bipush (pc := 7) hC dX6_undo_7 (-3) (by decide) ?_
    refine WP.iret (pc := 9) hC rfl dX6_undo_9 ?_ ?_ ?_
    all_goals (first | rfl | (rw [if_pos h4]))
set_option maxHeartbeats 4000000 in
theorem k_X6_fooled (l : Launch) (F : FF) (L : Int64) (nr ns : Nat) (s : Int32) (hM : MR F nr ns) : CI l yX6_fooled cX6_fooled 4 (some .int) (rmx 2 46) wM [.ref 0, .int s] F L (foMR F nr ns s) F L := by
  refine mkI [some (.ref 0), some (.int s), none, none] 2 (by decide) rfl (Nat.le_of_ble_eq_true rfl) ?_
  intro x d hx hC
  subst hx
  have hC : Cx x cX6_fooled 4 RX6 (some .int) (rmx 2 46) wM d := hC
  refine WP.aln (pc := 0) hC dX6_fooled_0 rfl ?_
  refine WP.iln (pc := 1) hC dX6_fooled_1 rfl ?_
  refine WP.callVI (pc := 2) hC dX6_fooled_2 (k_X6_isSample _ F L nr ns s hM) ml_X6_118 rfl rfl (by decide) rfl (Nat.le_of_ble_eq_true rfl) ⟨by decide, by decide⟩ ?_
  refine WP.ifne (pc := 5) hC dX6_fooled_5 10 (by decide) (fun h5 => ?_) (fun h5 => ?_)
  · rw [b2_n0] at h5
    obtain ⟨j, hj, rfl⟩ := hasB_of (by have := hM.2.2.2; omega) h5
    have hj4 : j < 4 := by have := hM.2.2.2; omega
    have ej : ix (nI j) = j := ix_nI (by omega)
    have hr5 := hM.2.2.1
    rw [show foMR F nr ns (nI j) = nI (bits (sayX F (fun _ => 0) true) nr) by unfold foMR; rw [if_pos h5]]
    have loop : ∀ i, i ≤ nr → WP x 4 wM d (QI x wM d (nI (bits (sayX F (fun _ => 0) true) nr)) F L) 14 [some (.ref 0), some (.int (nI j)), some (.int (nI (bits (sayX F (fun _ => 0) true) i))), some (.int (nI i))] [] F L := by
      refine loop_c (n := nr) (P := fun i => WP x 4 wM d (QI x wM d (nI (bits (sayX F (fun _ => 0) true) nr)) F L) 14 [some (.ref 0), some (.int (nI j)), some (.int (nI (bits (sayX F (fun _ => 0) true) i))), some (.int (nI i))] [] F L) ?_
      intro i hi0 ih
      refine WP.iln (pc := 14) hC dX6_fooled_14 rfl ?_
      refine WP.aln (pc := 15) hC dX6_fooled_15 rfl ?_
      refine WP.gf (pc := 16) hC dX6_fooled_16 fl_X6_86 (by decide) rfl rfl ?_
      refine WP.icge (pc := 19) hC dX6_fooled_19 65 (by decide) (fun h19 => ?_) (fun h19 => ?_)
      · have hi9 : i = nr := by
          have h19 := h19
          rw [hM.1] at h19
          have := (nI_leI (by omega) (by omega)).mp h19
          omega
        subst hi9
        refine WP.iln (pc := 65) hC dX6_fooled_65 rfl ?_
        refine WP.iret (pc := 66) hC rfl dX6_fooled_66 ?_ ?_ ?_
        all_goals (rfl)
      · have hi : i < nr := by
          have h19 := h19
          rw [hM.1] at h19
          exact (nI_ltI (by omega) (by omega)).mp (i_nle.mp h19)
        have hv := ih hi
        refine WP.iln (pc := 22) hC dX6_fooled_22 rfl ?_
        refine WP.aln (pc := 23) hC dX6_fooled_23 rfl ?_
        refine WP.iln (pc := 24) hC dX6_fooled_24 rfl ?_
        refine WP.aln (pc := 25) hC dX6_fooled_25 rfl ?_
        refine WP.iln (pc := 26) hC dX6_fooled_26 rfl ?_
        refine WP.aln (pc := 27) hC dX6_fooled_27 rfl ?_
        refine WP.gf (pc := 28) hC dX6_fooled_28 fl_X6_7 (by decide) rfl rfl ?_
        refine WP.iln (pc := 31) hC dX6_fooled_31 rfl ?_
        refine WP.ial (pc := 32) hC dX6_fooled_32 i rfl (by omega) (by decide) rfl (by decide) ?_
        refine WP.iconst (pc := 33) hC dX6_fooled_33 0 (by decide) ?_
        refine WP.iconst (pc := 34) hC dX6_fooled_34 1 (by decide) ?_
        refine WP.aln (pc := 35) hC dX6_fooled_35 rfl ?_
        refine WP.gf (pc := 36) hC dX6_fooled_36 fl_X6_22 (by decide) rfl rfl ?_
        refine WP.iln (pc := 39) hC dX6_fooled_39 rfl ?_
        refine WP.ial (pc := 40) hC dX6_fooled_40 i rfl (by omega) (by decide) rfl (by decide) ?_
        refine WP.callVI (pc := 41) hC dX6_fooled_41 (k_X6_brightFor _ F L i _ _ _ true (by omega)) ml_X6_95 rfl rfl (by decide) rfl (Nat.le_of_ble_eq_true rfl) ⟨by decide, by decide⟩ ?_
        refine WP.callVI (pc := 44) hC dX6_fooled_44 (k_X6_saysYes _ F L i _ (by omega)) ml_X6_103 rfl rfl (by decide) rfl (Nat.le_of_ble_eq_true rfl) ⟨by decide, by decide⟩ ?_
        refine WP.ifeq (pc := 47) hC dX6_fooled_47 56 (by decide) (fun h47 => ?_) (fun h47 => ?_)
        · rw [b2_0] at h47
          refine WP.iconst (pc := 56) hC dX6_fooled_56 0 (by decide) ?_
          refine WP.ior (pc := 57) hC dX6_fooled_57 ?_
          first | rw [sh5 i (by omega), or_bit' _ (by omega)] | rw [or0]
          refine WP.isn (lv' := [_, _, _, _]) (pc := 58) hC dX6_fooled_58 rfl (by decide) rfl ?_
          refine WP.iinc (lv' := [_, _, _, _]) (pc := 59) hC dX6_fooled_59 rfl (_ + 1) rfl rfl (by decide) rfl ?_
          refine WP.goto (pc := 62) hC dX6_fooled_62 14 (by decide) ?_
          rw [nIp1]
          first | (rw [bits_t (f := (sayX F (fun _ => 0) true)) h47] at hv; exact hv) | (rw [bits_f (f := (sayX F (fun _ => 0) true)) h47] at hv; exact hv)
        · rw [b2_n0] at h47
          refine WP.iconst (pc := 50) hC dX6_fooled_50 1 (by decide) ?_
          refine WP.iln (pc := 51) hC dX6_fooled_51 rfl ?_
          refine WP.ishl (pc := 52) hC dX6_fooled_52 ?_
          refine WP.goto (pc := 53) hC dX6_fooled_53 57 (by decide) ?_
          refine WP.ior (pc := 57) hC dX6_fooled_57 ?_
          first | rw [sh5 i (by omega), or_bit' _ (by omega)] | rw [or0]
          refine WP.isn (lv' := [_, _, _, _]) (pc := 58) hC dX6_fooled_58 rfl (by decide) rfl ?_
          refine WP.iinc (lv' := [_, _, _, _]) (pc := 59) hC dX6_fooled_59 rfl (_ + 1) rfl rfl (by decide) rfl ?_
          refine WP.goto (pc := 62) hC dX6_fooled_62 14 (by decide) ?_
          rw [nIp1]
          first | (rw [bits_t (f := (sayX F (fun _ => 0) true)) h47] at hv; exact hv) | (rw [bits_f (f := (sayX F (fun _ => 0) true)) h47] at hv; exact hv)
    refine WP.iconst (pc := 10) hC dX6_fooled_10 0 (by decide) ?_
    refine WP.isn (lv' := [_, _, _, _]) (pc := 11) hC dX6_fooled_11 rfl (by decide) rfl ?_
    refine WP.iconst (pc := 12) hC dX6_fooled_12 0 (by decide) ?_
    refine WP.isn (lv' := [_, _, _, _]) (pc := 13) hC dX6_fooled_13 rfl (by decide) rfl ?_
    exact loop 0 (Nat.zero_le _)
  · rw [b2_0] at h5
    refine WP.iconst (pc := 8) hC dX6_fooled_8 (-1) (by decide) ?_
    refine WP.iret (pc := 9) hC rfl dX6_fooled_9 ?_ ?_ ?_
    all_goals (first | rfl | (unfold foMR; rw [if_neg (by rw [h5]; decide)]))
set_option maxHeartbeats 4000000 in
theorem k_X6_truly (l : Launch) (F : FF) (L : Int64) (nr ns : Nat) (s : Int32) (hM : MR F nr ns) : CI l yX6_truly cX6_truly 6 (some .int) (rmx 2 46) wM [.ref 0, .int s] F L (trMR F nr ns s) F L := by
  refine mkI [some (.ref 0), some (.int s), none, none, none, none] 4 (by decide) rfl (Nat.le_of_ble_eq_true rfl) ?_
  intro x d hx hC
  subst hx
  have hC : Cx x cX6_truly 6 RX6 (some .int) (rmx 2 46) wM d := hC
  refine WP.aln (pc := 0) hC dX6_truly_0 rfl ?_
  refine WP.iln (pc := 1) hC dX6_truly_1 rfl ?_
  refine WP.callVI (pc := 2) hC dX6_truly_2 (k_X6_isSample _ F L nr ns s hM) ml_X6_118 rfl rfl (by decide) rfl (Nat.le_of_ble_eq_true rfl) ⟨by decide, by decide⟩ ?_
  refine WP.ifne (pc := 5) hC dX6_truly_5 10 (by decide) (fun h5 => ?_) (fun h5 => ?_)
  · rw [b2_n0] at h5
    obtain ⟨j, hj, rfl⟩ := hasB_of (by have := hM.2.2.2; omega) h5
    have hj4 : j < 4 := by have := hM.2.2.2; omega
    have ej : ix (nI j) = j := ix_nI (by omega)
    have hr5 := hM.2.2.1
    rw [show trMR F nr ns (nI j) = nI (bits (fun i => sayX F (fun _ => F 4 j) false i && !(sayX F (fun _ => 0) false i)) nr) by unfold trMR; rw [if_pos h5, ej]]
    have loop : ∀ i, i ≤ nr → ∀ a4 a5 : Option Value, WP x 6 wM d (QI x wM d (nI (bits (fun i => sayX F (fun _ => F 4 j) false i && !(sayX F (fun _ => 0) false i)) nr)) F L) 14 [some (.ref 0), some (.int (nI j)), some (.int (nI (bits (fun i => sayX F (fun _ => F 4 j) false i && !(sayX F (fun _ => 0) false i)) i))), some (.int (nI i)), a4, a5] [] F L := by
      refine loop_c (n := nr) (P := fun i => ∀ a4 a5 : Option Value, WP x 6 wM d (QI x wM d (nI (bits (fun i => sayX F (fun _ => F 4 j) false i && !(sayX F (fun _ => 0) false i)) nr)) F L) 14 [some (.ref 0), some (.int (nI j)), some (.int (nI (bits (fun i => sayX F (fun _ => F 4 j) false i && !(sayX F (fun _ => 0) false i)) i))), some (.int (nI i)), a4, a5] [] F L) ?_
      intro i hi0 ih a4 a5
      refine WP.iln (pc := 14) hC dX6_truly_14 rfl ?_
      refine WP.aln (pc := 15) hC dX6_truly_15 rfl ?_
      refine WP.gf (pc := 16) hC dX6_truly_16 fl_X6_86 (by decide) rfl rfl ?_
      refine WP.icge (pc := 19) hC dX6_truly_19 105 (by decide) (fun h19 => ?_) (fun h19 => ?_)
      · have hi9 : i = nr := by
          have h19 := h19
          rw [hM.1] at h19
          have := (nI_leI (by omega) (by omega)).mp h19
          omega
        subst hi9
        refine WP.iln (pc := 105) hC dX6_truly_105 rfl ?_
        refine WP.iret (pc := 106) hC rfl dX6_truly_106 ?_ ?_ ?_
        all_goals (rfl)
      · have hi : i < nr := by
          have h19 := h19
          rw [hM.1] at h19
          exact (nI_ltI (by omega) (by omega)).mp (i_nle.mp h19)
        have hv := ih hi
        refine WP.aln (pc := 22) hC dX6_truly_22 rfl ?_
        refine WP.iln (pc := 23) hC dX6_truly_23 rfl ?_
        refine WP.aln (pc := 24) hC dX6_truly_24 rfl ?_
        refine WP.iln (pc := 25) hC dX6_truly_25 rfl ?_
        refine WP.aln (pc := 26) hC dX6_truly_26 rfl ?_
        refine WP.gf (pc := 27) hC dX6_truly_27 fl_X6_7 (by decide) rfl rfl ?_
        refine WP.iln (pc := 30) hC dX6_truly_30 rfl ?_
        refine WP.ial (pc := 31) hC dX6_truly_31 i rfl (by omega) (by decide) rfl (by decide) ?_
        refine WP.aln (pc := 32) hC dX6_truly_32 rfl ?_
        refine WP.gf (pc := 33) hC dX6_truly_33 fl_X6_19 (by decide) rfl rfl ?_
        refine WP.iln (pc := 36) hC dX6_truly_36 rfl ?_
        refine WP.ial (pc := 37) hC dX6_truly_37 j rfl hj4 (by decide) rfl (by decide) ?_
        refine WP.iconst (pc := 38) hC dX6_truly_38 0 (by decide) ?_
        refine WP.aln (pc := 39) hC dX6_truly_39 rfl ?_
        refine WP.gf (pc := 40) hC dX6_truly_40 fl_X6_22 (by decide) rfl rfl ?_
        refine WP.iln (pc := 43) hC dX6_truly_43 rfl ?_
        refine WP.ial (pc := 44) hC dX6_truly_44 i rfl (by omega) (by decide) rfl (by decide) ?_
        refine WP.callVI (pc := 45) hC dX6_truly_45 (k_X6_brightFor _ F L i _ _ _ false (by omega)) ml_X6_95 rfl rfl (by decide) rfl (Nat.le_of_ble_eq_true rfl) ⟨by decide, by decide⟩ ?_
        refine WP.callVI (pc := 48) hC dX6_truly_48 (k_X6_saysYes _ F L i _ (by omega)) ml_X6_103 rfl rfl (by decide) rfl (Nat.le_of_ble_eq_true rfl) ⟨by decide, by decide⟩ ?_
        rw [show saysB (F 3 i) (F 2 i) (seesM (F 3 i) (F 1 i) (F 4 j) (F 5 i) false) = sayX F (fun _ => F 4 j) false i from rfl]
        refine WP.is (lv' := [_, _, _, _, _, _]) (pc := 51) hC dX6_truly_51 rfl (by decide) rfl ?_
        refine WP.aln (pc := 53) hC dX6_truly_53 rfl ?_
        refine WP.iln (pc := 54) hC dX6_truly_54 rfl ?_
        refine WP.aln (pc := 55) hC dX6_truly_55 rfl ?_
        refine WP.iln (pc := 56) hC dX6_truly_56 rfl ?_
        refine WP.aln (pc := 57) hC dX6_truly_57 rfl ?_
        refine WP.gf (pc := 58) hC dX6_truly_58 fl_X6_7 (by decide) rfl rfl ?_
        refine WP.iln (pc := 61) hC dX6_truly_61 rfl ?_
        refine WP.ial (pc := 62) hC dX6_truly_62 i rfl (by omega) (by decide) rfl (by decide) ?_
        refine WP.iconst (pc := 63) hC dX6_truly_63 0 (by decide) ?_
        refine WP.iconst (pc := 64) hC dX6_truly_64 0 (by decide) ?_
        refine WP.aln (pc := 65) hC dX6_truly_65 rfl ?_
        refine WP.gf (pc := 66) hC dX6_truly_66 fl_X6_22 (by decide) rfl rfl ?_
        refine WP.iln (pc := 69) hC dX6_truly_69 rfl ?_
        refine WP.ial (pc := 70) hC dX6_truly_70 i rfl (by omega) (by decide) rfl (by decide) ?_
        refine WP.callVI (pc := 71) hC dX6_truly_71 (k_X6_brightFor _ F L i _ _ _ false (by omega)) ml_X6_95 rfl rfl (by decide) rfl (Nat.le_of_ble_eq_true rfl) ⟨by decide, by decide⟩ ?_
        refine WP.callVI (pc := 74) hC dX6_truly_74 (k_X6_saysYes _ F L i _ (by omega)) ml_X6_103 rfl rfl (by decide) rfl (Nat.le_of_ble_eq_true rfl) ⟨by decide, by decide⟩ ?_
        rw [show saysB (F 3 i) (F 2 i) (seesM (F 3 i) (F 1 i) 0 (F 5 i) false) = sayX F (fun _ => 0) false i from rfl]
        refine WP.is (lv' := [_, _, _, _, _, _]) (pc := 77) hC dX6_truly_77 rfl (by decide) rfl ?_
        refine WP.iln (pc := 79) hC dX6_truly_79 rfl ?_
        refine WP.il (pc := 80) hC dX6_truly_80 rfl ?_
        refine WP.ifeq (pc := 82) hC dX6_truly_82 96 (by decide) (fun h82 => ?_) (fun h82 => ?_)
        · have hq : (fun i => sayX F (fun _ => F 4 j) false i && !(sayX F (fun _ => 0) false i)) i = false := by
            first | (rw [b2_n0] at h87; simp [h87]; done) | (rw [b2_0] at h82; simp [h82]; done)
          refine WP.iconst (pc := 96) hC dX6_truly_96 0 (by decide) ?_
          refine WP.ior (pc := 97) hC dX6_truly_97 ?_
          first | rw [sh5 i (by omega), or_bit' _ (by omega)] | rw [or0]
          refine WP.isn (lv' := [_, _, _, _, _, _]) (pc := 98) hC dX6_truly_98 rfl (by decide) rfl ?_
          refine WP.iinc (lv' := [_, _, _, _, _, _]) (pc := 99) hC dX6_truly_99 rfl (_ + 1) rfl rfl (by decide) rfl ?_
          refine WP.goto (pc := 102) hC dX6_truly_102 14 (by decide) ?_
          rw [nIp1]
          first | (rw [bits_t (f := (fun i => sayX F (fun _ => F 4 j) false i && !(sayX F (fun _ => 0) false i))) hq] at hv; exact hv _ _) | (rw [bits_f (f := (fun i => sayX F (fun _ => F 4 j) false i && !(sayX F (fun _ => 0) false i))) hq] at hv; exact hv _ _)
        · refine WP.il (pc := 85) hC dX6_truly_85 rfl ?_
          refine WP.ifne (pc := 87) hC dX6_truly_87 96 (by decide) (fun h87 => ?_) (fun h87 => ?_)
          · have hq : (fun i => sayX F (fun _ => F 4 j) false i && !(sayX F (fun _ => 0) false i)) i = false := by
              first | (rw [b2_n0] at h87; simp [h87]; done) | (rw [b2_0] at h82; simp [h82]; done)
            refine WP.iconst (pc := 96) hC dX6_truly_96 0 (by decide) ?_
            refine WP.ior (pc := 97) hC dX6_truly_97 ?_
            first | rw [sh5 i (by omega), or_bit' _ (by omega)] | rw [or0]
            refine WP.isn (lv' := [_, _, _, _, _, _]) (pc := 98) hC dX6_truly_98 rfl (by decide) rfl ?_
            refine WP.iinc (lv' := [_, _, _, _, _, _]) (pc := 99) hC dX6_truly_99 rfl (_ + 1) rfl rfl (by decide) rfl ?_
            refine WP.goto (pc := 102) hC dX6_truly_102 14 (by decide) ?_
            rw [nIp1]
            first | (rw [bits_t (f := (fun i => sayX F (fun _ => F 4 j) false i && !(sayX F (fun _ => 0) false i))) hq] at hv; exact hv _ _) | (rw [bits_f (f := (fun i => sayX F (fun _ => F 4 j) false i && !(sayX F (fun _ => 0) false i))) hq] at hv; exact hv _ _)
          · rw [b2_n0] at h82
            rw [b2_0] at h87
            have hq : (fun i => sayX F (fun _ => F 4 j) false i && !(sayX F (fun _ => 0) false i)) i = true := by simp [h82, h87]
            refine WP.iconst (pc := 90) hC dX6_truly_90 1 (by decide) ?_
            refine WP.iln (pc := 91) hC dX6_truly_91 rfl ?_
            refine WP.ishl (pc := 92) hC dX6_truly_92 ?_
            refine WP.goto (pc := 93) hC dX6_truly_93 97 (by decide) ?_
            refine WP.ior (pc := 97) hC dX6_truly_97 ?_
            first | rw [sh5 i (by omega), or_bit' _ (by omega)] | rw [or0]
            refine WP.isn (lv' := [_, _, _, _, _, _]) (pc := 98) hC dX6_truly_98 rfl (by decide) rfl ?_
            refine WP.iinc (lv' := [_, _, _, _, _, _]) (pc := 99) hC dX6_truly_99 rfl (_ + 1) rfl rfl (by decide) rfl ?_
            refine WP.goto (pc := 102) hC dX6_truly_102 14 (by decide) ?_
            rw [nIp1]
            first | (rw [bits_t (f := (fun i => sayX F (fun _ => F 4 j) false i && !(sayX F (fun _ => 0) false i))) hq] at hv; exact hv _ _) | (rw [bits_f (f := (fun i => sayX F (fun _ => F 4 j) false i && !(sayX F (fun _ => 0) false i))) hq] at hv; exact hv _ _)
    refine WP.iconst (pc := 10) hC dX6_truly_10 0 (by decide) ?_
    refine WP.isn (lv' := [_, _, _, _, _, _]) (pc := 11) hC dX6_truly_11 rfl (by decide) rfl ?_
    refine WP.iconst (pc := 12) hC dX6_truly_12 0 (by decide) ?_
    refine WP.isn (lv' := [_, _, _, _, _, _]) (pc := 13) hC dX6_truly_13 rfl (by decide) rfl ?_
    exact loop 0 (Nat.zero_le _) _ _
  · rw [b2_0] at h5
    refine WP.iconst (pc := 8) hC dX6_truly_8 (-1) (by decide) ?_
    refine WP.iret (pc := 9) hC rfl dX6_truly_9 ?_ ?_ ?_
    all_goals (first | rfl | (unfold trMR; rw [if_neg (by rw [h5]; decide)]))
