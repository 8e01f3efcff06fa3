section ROWS
variable {x : MC} {cc : ByteArray} {nL : Nat} {own : String} {ret : Option FieldType} {rm : Room} {wd : WD} {d : DC} {Q : State → Prop} {pc : Nat} {lv : List (Option Value)} {st : List Value} {F : FF} {L : Int64}
theorem WP.iadd {a b : Int32} (hC : Cx x cc nL own ret rm wd d) (hdg : decode cc pc = .ok (.iadd, 1)) (kk : WP x nL wd d Q (pc + 1) lv (.int (a + b) :: st) F L) : WP x nL wd d Q pc lv (.int b :: .int a :: st) F L := by
  obtain ⟨p, l, e, R, s, m, args, below, meth, c⟩ := x
  intro ls H locs hl hP hS
  exact lv_iadd hC.1 hC.2.1 hdg (kk ls H locs hl hP hS)
theorem WP.isub {a b : Int32} (hC : Cx x cc nL own ret rm wd d) (hdg : decode cc pc = .ok (.isub, 1)) (kk : WP x nL wd d Q (pc + 1) lv (.int (a - b) :: st) F L) : WP x nL wd d Q pc lv (.int b :: .int a :: st) F L := by
  obtain ⟨p, l, e, R, s, m, args, below, meth, c⟩ := x
  intro ls H locs hl hP hS
  exact lv_isub hC.1 hC.2.1 hdg (kk ls H locs hl hP hS)
theorem WP.imul {a b : Int32} (hC : Cx x cc nL own ret rm wd d) (hdg : decode cc pc = .ok (.imul, 1)) (kk : WP x nL wd d Q (pc + 1) lv (.int (a * b) :: st) F L) : WP x nL wd d Q pc lv (.int b :: .int a :: st) F L := by
  obtain ⟨p, l, e, R, s, m, args, below, meth, c⟩ := x
  intro ls H locs hl hP hS
  exact lv_imul hC.1 hC.2.1 hdg (kk ls H locs hl hP hS)
theorem WP.iand {a b : Int32} (hC : Cx x cc nL own ret rm wd d) (hdg : decode cc pc = .ok (.iand, 1)) (kk : WP x nL wd d Q (pc + 1) lv (.int (a &&& b) :: st) F L) : WP x nL wd d Q pc lv (.int b :: .int a :: st) F L := by
  obtain ⟨p, l, e, R, s, m, args, below, meth, c⟩ := x
  intro ls H locs hl hP hS
  exact lv_iand hC.1 hC.2.1 hdg (kk ls H locs hl hP hS)
theorem WP.ior {a b : Int32} (hC : Cx x cc nL own ret rm wd d) (hdg : decode cc pc = .ok (.ior, 1)) (kk : WP x nL wd d Q (pc + 1) lv (.int (a ||| b) :: st) F L) : WP x nL wd d Q pc lv (.int b :: .int a :: st) F L := by
  obtain ⟨p, l, e, R, s, m, args, below, meth, c⟩ := x
  intro ls H locs hl hP hS
  exact lv_ior hC.1 hC.2.1 hdg (kk ls H locs hl hP hS)
theorem WP.ixor {a b : Int32} (hC : Cx x cc nL own ret rm wd d) (hdg : decode cc pc = .ok (.ixor, 1)) (kk : WP x nL wd d Q (pc + 1) lv (.int (a ^^^ b) :: st) F L) : WP x nL wd d Q pc lv (.int b :: .int a :: st) F L := by
  obtain ⟨p, l, e, R, s, m, args, below, meth, c⟩ := x
  intro ls H locs hl hP hS
  exact lv_ixor hC.1 hC.2.1 hdg (kk ls H locs hl hP hS)
theorem WP.ishl {a b : Int32} (hC : Cx x cc nL own ret rm wd d) (hdg : decode cc pc = .ok (.ishl, 1)) (kk : WP x nL wd d Q (pc + 1) lv (.int (a <<< (b &&& 31)) :: st) F L) : WP x nL wd d Q pc lv (.int b :: .int a :: st) F L := by
  obtain ⟨p, l, e, R, s, m, args, below, meth, c⟩ := x
  intro ls H locs hl hP hS
  exact lv_ishl hC.1 hC.2.1 hdg (kk ls H locs hl hP hS)
theorem WP.ishr {a b : Int32} (hC : Cx x cc nL own ret rm wd d) (hdg : decode cc pc = .ok (.ishr, 1)) (kk : WP x nL wd d Q (pc + 1) lv (.int (a >>> (b &&& 31)) :: st) F L) : WP x nL wd d Q pc lv (.int b :: .int a :: st) F L := by
  obtain ⟨p, l, e, R, s, m, args, below, meth, c⟩ := x
  intro ls H locs hl hP hS
  exact lv_ishr hC.1 hC.2.1 hdg (kk ls H locs hl hP hS)
theorem WP.iushr {a b : Int32} (hC : Cx x cc nL own ret rm wd d) (hdg : decode cc pc = .ok (.iushr, 1)) (kk : WP x nL wd d Q (pc + 1) lv (.int (a.toUInt32 >>> (b.toUInt32 &&& Int32.toUInt32 31)).toInt32 :: st) F L) : WP x nL wd d Q pc lv (.int b :: .int a :: st) F L := by
  obtain ⟨p, l, e, R, s, m, args, below, meth, c⟩ := x
  intro ls H locs hl hP hS
  exact lv_iushr hC.1 hC.2.1 hdg rfl (kk ls H locs hl hP hS)
theorem WP.idiv {a b : Int32} (hC : Cx x cc nL own ret rm wd d) (hdg : decode cc pc = .ok (.idiv, 1)) (hne : ¬ b = 0) (kk : WP x nL wd d Q (pc + 1) lv (.int (a / b) :: st) F L) : WP x nL wd d Q pc lv (.int b :: .int a :: st) F L := by
  obtain ⟨p, l, e, R, s, m, args, below, meth, c⟩ := x
  intro ls H locs hl hP hS
  exact lv_idiv hC.1 hC.2.1 hdg hne (kk ls H locs hl hP hS)
theorem WP.irem {a b : Int32} (hC : Cx x cc nL own ret rm wd d) (hdg : decode cc pc = .ok (.irem, 1)) (hne : ¬ b = 0) (kk : WP x nL wd d Q (pc + 1) lv (.int (a - a / b * b) :: st) F L) : WP x nL wd d Q pc lv (.int b :: .int a :: st) F L := by
  obtain ⟨p, l, e, R, s, m, args, below, meth, c⟩ := x
  intro ls H locs hl hP hS
  exact lv_irem hC.1 hC.2.1 hdg hne (kk ls H locs hl hP hS)
theorem WP.ineg {a : Int32} (hC : Cx x cc nL own ret rm wd d) (hdg : decode cc pc = .ok (.ineg, 1)) (kk : WP x nL wd d Q (pc + 1) lv (.int (-a) :: st) F L) : WP x nL wd d Q pc lv (.int a :: st) F L := by
  obtain ⟨p, l, e, R, s, m, args, below, meth, c⟩ := x
  intro ls H locs hl hP hS
  exact lv_ineg hC.1 hC.2.1 hdg (kk ls H locs hl hP hS)
theorem WP.ladd {a b : Int64} (hC : Cx x cc nL own ret rm wd d) (hdg : decode cc pc = .ok (.ladd, 1)) (kk : WP x nL wd d Q (pc + 1) lv (.long (a + b) :: st) F L) : WP x nL wd d Q pc lv (.long b :: .long a :: st) F L := by
  obtain ⟨p, l, e, R, s, m, args, below, meth, c⟩ := x
  intro ls H locs hl hP hS
  exact lv_ladd hC.1 hC.2.1 hdg (kk ls H locs hl hP hS)
theorem WP.lmul {a b : Int64} (hC : Cx x cc nL own ret rm wd d) (hdg : decode cc pc = .ok (.lmul, 1)) (kk : WP x nL wd d Q (pc + 1) lv (.long (a * b) :: st) F L) : WP x nL wd d Q pc lv (.long b :: .long a :: st) F L := by
  obtain ⟨p, l, e, R, s, m, args, below, meth, c⟩ := x
  intro ls H locs hl hP hS
  exact lv_lmul hC.1 hC.2.1 hdg (kk ls H locs hl hP hS)
theorem WP.land {a b : Int64} (hC : Cx x cc nL own ret rm wd d) (hdg : decode cc pc = .ok (.land, 1)) (kk : WP x nL wd d Q (pc + 1) lv (.long (a &&& b) :: st) F L) : WP x nL wd d Q pc lv (.long b :: .long a :: st) F L := by
  obtain ⟨p, l, e, R, s, m, args, below, meth, c⟩ := x
  intro ls H locs hl hP hS
  exact lv_land hC.1 hC.2.1 hdg (kk ls H locs hl hP hS)
theorem WP.lor {a b : Int64} (hC : Cx x cc nL own ret rm wd d) (hdg : decode cc pc = .ok (.lor, 1)) (kk : WP x nL wd d Q (pc + 1) lv (.long (a ||| b) :: st) F L) : WP x nL wd d Q pc lv (.long b :: .long a :: st) F L := by
  obtain ⟨p, l, e, R, s, m, args, below, meth, c⟩ := x
  intro ls H locs hl hP hS
  exact lv_lor hC.1 hC.2.1 hdg (kk ls H locs hl hP hS)
theorem WP.lrem {a b : Int64} (hC : Cx x cc nL own ret rm wd d) (hdg : decode cc pc = .ok (.lrem, 1)) (hne : ¬ b = 0) (kk : WP x nL wd d Q (pc + 1) lv (.long (a - a / b * b) :: st) F L) : WP x nL wd d Q pc lv (.long b :: .long a :: st) F L := by
  obtain ⟨p, l, e, R, s, m, args, below, meth, c⟩ := x
  intro ls H locs hl hP hS
  exact lv_lrem hC.1 hC.2.1 hdg hne (kk ls H locs hl hP hS)
theorem WP.lushr {a : Int64} {b : Int32} (hC : Cx x cc nL own ret rm wd d) (hdg : decode cc pc = .ok (.lushr, 1)) (kk : WP x nL wd d Q (pc + 1) lv (.long (a.toUInt64 >>> (b.toInt64.toUInt64 &&& Int64.toUInt64 63)).toInt64 :: st) F L) : WP x nL wd d Q pc lv (.int b :: .long a :: st) F L := by
  obtain ⟨p, l, e, R, s, m, args, below, meth, c⟩ := x
  intro ls H locs hl hP hS
  exact lv_lushr hC.1 hC.2.1 hdg rfl (kk ls H locs hl hP hS)
theorem WP.lshl {a : Int64} {b : Int32} (hC : Cx x cc nL own ret rm wd d) (hdg : decode cc pc = .ok (.lshl, 1)) (kk : WP x nL wd d Q (pc + 1) lv (.long (a <<< (b.toInt64 &&& 63)) :: st) F L) : WP x nL wd d Q pc lv (.int b :: .long a :: st) F L := by
  obtain ⟨p, l, e, R, s, m, args, below, meth, c⟩ := x
  intro ls H locs hl hP hS
  exact lv_lshl hC.1 hC.2.1 hdg rfl (kk ls H locs hl hP hS)
theorem WP.i2l {a : Int32} (hC : Cx x cc nL own ret rm wd d) (hdg : decode cc pc = .ok (.i2l, 1)) (kk : WP x nL wd d Q (pc + 1) lv (.long a.toInt64 :: st) F L) : WP x nL wd d Q pc lv (.int a :: st) F L := by
  obtain ⟨p, l, e, R, s, m, args, below, meth, c⟩ := x
  intro ls H locs hl hP hS
  exact lv_i2l hC.1 hC.2.1 hdg rfl (kk ls H locs hl hP hS)
theorem WP.l2i {a : Int64} (hC : Cx x cc nL own ret rm wd d) (hdg : decode cc pc = .ok (.l2i, 1)) (kk : WP x nL wd d Q (pc + 1) lv (.int a.toInt32 :: st) F L) : WP x nL wd d Q pc lv (.long a :: st) F L := by
  obtain ⟨p, l, e, R, s, m, args, below, meth, c⟩ := x
  intro ls H locs hl hP hS
  exact lv_l2i hC.1 hC.2.1 hdg rfl (kk ls H locs hl hP hS)
theorem WP.lcmp {a b : Int64} (hC : Cx x cc nL own ret rm wd d) (hdg : decode cc pc = .ok (.lcmp, 1)) (kk : WP x nL wd d Q (pc + 1) lv (.int (lg_cmp a b) :: st) F L) : WP x nL wd d Q pc lv (.long b :: .long a :: st) F L := by
  obtain ⟨p, l, e, R, s, m, args, below, meth, c⟩ := x
  intro ls H locs hl hP hS
  exact W.lcmp hC.1 hC.2.1 hdg (kk ls H locs hl hP hS)
theorem WP.iconst {n : Int} (hC : Cx x cc nL own ret rm wd d) (hdg : decode cc pc = .ok (.iconst n, 1)) (v : Int32) (hv : Int32.ofInt n = v) (kk : WP x nL wd d Q (pc + 1) lv (.int v :: st) F L) : WP x nL wd d Q pc lv st F L := by
  obtain ⟨p, l, e, R, s, m, args, below, meth, c⟩ := x
  intro ls H locs hl hP hS
  exact lv_iconst hC.1 hC.2.1 hdg hv (kk ls H locs hl hP hS)
theorem WP.bipush {n : Int} (hC : Cx x cc nL own ret rm wd d) (hdg : decode cc pc = .ok (.bipush n, 2)) (v : Int32) (hv : (Int8.ofInt n).toInt32 = v) (kk : WP x nL wd d Q (pc + 2) lv (.int v :: st) F L) : WP x nL wd d Q pc lv st F L := by
  obtain ⟨p, l, e, R, s, m, args, below, meth, c⟩ := x
  intro ls H locs hl hP hS
  exact lv_bipush hC.1 hC.2.1 hdg hv (kk ls H locs hl hP hS)
theorem WP.sipush {n : Int} (hC : Cx x cc nL own ret rm wd d) (hdg : decode cc pc = .ok (.sipush n, 3)) (v : Int32) (hv : (Int16.ofInt n).toInt32 = v) (kk : WP x nL wd d Q (pc + 3) lv (.int v :: st) F L) : WP x nL wd d Q pc lv st F L := by
  obtain ⟨p, l, e, R, s, m, args, below, meth, c⟩ := x
  intro ls H locs hl hP hS
  exact lv_sipush hC.1 hC.2.1 hdg hv (kk ls H locs hl hP hS)
theorem WP.lconst {n : Fin 2} (hC : Cx x cc nL own ret rm wd d) (hdg : decode cc pc = .ok (.lconst n, 1)) (v : Int64) (hv : Int64.ofNat (n : Nat) = v) (kk : WP x nL wd d Q (pc + 1) lv (.long v :: st) F L) : WP x nL wd d Q pc lv st F L := by
  obtain ⟨p, l, e, R, s, m, args, below, meth, c⟩ := x
  intro ls H locs hl hP hS
  exact lv_lconst hC.1 hC.2.1 hdg hv (kk ls H locs hl hP hS)
theorem WP.ldc {ix : Nat} {v : Int32} (hC : Cx x cc nL own ret rm wd d) (hdg : decode cc pc = .ok (.ldc ix, 2)) (hw : Cond.constant own ix v ∈ gw) (kk : WP x nL wd d Q (pc + 2) lv (.int v :: st) F L) : WP x nL wd d Q pc lv st F L := by
  obtain ⟨p, l, e, R, s, m, args, below, meth, c⟩ := x
  intro ls H locs hl hP hS
  exact lv_ldc hC.1 hC.2.1 hC.2.2.2.1 (hC.2.2.2.2.1 _ hw) hdg (kk ls H locs hl hP hS)
theorem WP.ldcw {ix : Nat} {v : Int32} (hC : Cx x cc nL own ret rm wd d) (hdg : decode cc pc = .ok (.ldc_w ix, 3)) (hw : Cond.constant own ix v ∈ gw) (kk : WP x nL wd d Q (pc + 3) lv (.int v :: st) F L) : WP x nL wd d Q pc lv st F L := by
  obtain ⟨p, l, e, R, s, m, args, below, meth, c⟩ := x
  intro ls H locs hl hP hS
  exact lv_ldcw hC.1 hC.2.1 hC.2.2.2.1 (hC.2.2.2.2.1 _ hw) hdg (kk ls H locs hl hP hS)
theorem WP.ldc2 {ix : Nat} {v : Int64} (hC : Cx x cc nL own ret rm wd d) (hdg : decode cc pc = .ok (.ldc2_w ix, 3)) (hw : Cond.constantLong own ix v ∈ gw) (kk : WP x nL wd d Q (pc + 3) lv (.long v :: st) F L) : WP x nL wd d Q pc lv st F L := by
  obtain ⟨p, l, e, R, s, m, args, below, meth, c⟩ := x
  intro ls H locs hl hP hS
  exact lv_ldc2 hC.1 hC.2.1 hC.2.2.2.1 (hC.2.2.2.2.1 _ hw) hdg (kk ls H locs hl hP hS)
theorem WP.dup {v : Value} (hC : Cx x cc nL own ret rm wd d) (hdg : decode cc pc = .ok (.dup, 1)) (hv : v.category = 1) (kk : WP x nL wd d Q (pc + 1) lv (v :: v :: st) F L) : WP x nL wd d Q pc lv (v :: st) F L := by
  obtain ⟨p, l, e, R, s, m, args, below, meth, c⟩ := x
  intro ls H locs hl hP hS
  exact lv_dup hC.1 hC.2.1 hdg (by rw [tv_cat]; exact hv) (kk ls H locs hl hP hS)
theorem WP.pop {v : Value} (hC : Cx x cc nL own ret rm wd d) (hdg : decode cc pc = .ok (.pop, 1)) (hv : v.category = 1) (kk : WP x nL wd d Q (pc + 1) lv st F L) : WP x nL wd d Q pc lv (v :: st) F L := by
  obtain ⟨p, l, e, R, s, m, args, below, meth, c⟩ := x
  intro ls H locs hl hP hS
  exact lv_pop hC.1 hC.2.1 hdg (by rw [tv_cat]; exact hv) (kk ls H locs hl hP hS)
theorem WP.dup2 {v u : Value} (hC : Cx x cc nL own ret rm wd d) (hdg : decode cc pc = .ok (.dup2, 1)) (hv : v.category = 1) (hu : u.category = 1) (kk : WP x nL wd d Q (pc + 1) lv (v :: u :: v :: u :: st) F L) : WP x nL wd d Q pc lv (v :: u :: st) F L := by
  obtain ⟨p, l, e, R, s, m, args, below, meth, c⟩ := x
  intro ls H locs hl hP hS
  exact lv_dup2_11 hC.1 hC.2.1 hdg (by rw [tv_cat]; exact hv) (by rw [tv_cat]; exact hu) (kk ls H locs hl hP hS)
theorem WP.il {i : Nat} {a : Int32} (hC : Cx x cc nL own ret rm wd d) (hdg : decode cc pc = .ok (.iload i, 2)) (hv : lv[i]? = some (some (.int a))) (kk : WP x nL wd d Q (pc + 2) lv (.int a :: st) F L) : WP x nL wd d Q pc lv st F L := by
  obtain ⟨p, l, e, R, s, m, args, below, meth, c⟩ := x
  intro ls H locs hl hP hS
  exact lv_iload hC.1 hC.2.1 hdg (hl.at hv) (kk ls H locs hl hP hS)
theorem WP.iln {i : Fin 4} {a : Int32} (hC : Cx x cc nL own ret rm wd d) (hdg : decode cc pc = .ok (.iload_n i, 1)) (hv : lv[(i : Nat)]? = some (some (.int a))) (kk : WP x nL wd d Q (pc + 1) lv (.int a :: st) F L) : WP x nL wd d Q pc lv st F L := by
  obtain ⟨p, l, e, R, s, m, args, below, meth, c⟩ := x
  intro ls H locs hl hP hS
  exact lv_iload_n hC.1 hC.2.1 hdg rfl (hl.at hv) (kk ls H locs hl hP hS)
theorem WP.ll {i : Nat} {a : Int64} (hC : Cx x cc nL own ret rm wd d) (hdg : decode cc pc = .ok (.lload i, 2)) (hv : lv[i]? = some (some (.long a))) (kk : WP x nL wd d Q (pc + 2) lv (.long a :: st) F L) : WP x nL wd d Q pc lv st F L := by
  obtain ⟨p, l, e, R, s, m, args, below, meth, c⟩ := x
  intro ls H locs hl hP hS
  exact lv_lload hC.1 hC.2.1 hdg (hl.at hv) (kk ls H locs hl hP hS)
theorem WP.lln {i : Fin 4} {a : Int64} (hC : Cx x cc nL own ret rm wd d) (hdg : decode cc pc = .ok (.lload_n i, 1)) (hv : lv[(i : Nat)]? = some (some (.long a))) (kk : WP x nL wd d Q (pc + 1) lv (.long a :: st) F L) : WP x nL wd d Q pc lv st F L := by
  obtain ⟨p, l, e, R, s, m, args, below, meth, c⟩ := x
  intro ls H locs hl hP hS
  exact lv_lload_n hC.1 hC.2.1 hdg rfl (hl.at hv) (kk ls H locs hl hP hS)
theorem WP.aln {i : Fin 4} {a : Nat} (hC : Cx x cc nL own ret rm wd d) (hdg : decode cc pc = .ok (.aload_n i, 1)) (hv : lv[(i : Nat)]? = some (some (.ref a))) (kk : WP x nL wd d Q (pc + 1) lv (.ref a :: st) F L) : WP x nL wd d Q pc lv st F L := by
  obtain ⟨p, l, e, R, s, m, args, below, meth, c⟩ := x
  intro ls H locs hl hP hS
  exact lv_aload_n hC.1 hC.2.1 hdg rfl (hl.at hv) (kk ls H locs hl hP hS)
theorem WP.al {i : Nat} {a : Nat} (hC : Cx x cc nL own ret rm wd d) (hdg : decode cc pc = .ok (.aload i, 2)) (hv : lv[i]? = some (some (.ref a))) (kk : WP x nL wd d Q (pc + 2) lv (.ref a :: st) F L) : WP x nL wd d Q pc lv st F L := by
  obtain ⟨p, l, e, R, s, m, args, below, meth, c⟩ := x
  intro ls H locs hl hP hS
  exact lv_aload hC.1 hC.2.1 hdg (hl.at hv) (kk ls H locs hl hP hS)
theorem WP.is {i : Nat} {a : Int32} {lv' : List (Option Value)} (hC : Cx x cc nL own ret rm wd d) (hdg : decode cc pc = .ok (.istore i, 2)) (hp : okp lv i = true) (hn : i < nL) (hs : lv.set i (some (.int a)) = lv') (kk : WP x nL wd d Q (pc + 2) lv' st F L) : WP x nL wd d Q pc lv (.int a :: st) F L := by
  obtain ⟨p, l, e, R, s, m, args, below, meth, c⟩ := x
  intro ls H locs hl hP hS
  subst hs
  exact lv_istore hC.1 hC.2.1 hdg hl hn rfl (fun ls' hl' => kk ls' H locs (LH.st (v := .int a) hp hl') hP hS)
theorem WP.isn {i : Fin 4} {a : Int32} {lv' : List (Option Value)} (hC : Cx x cc nL own ret rm wd d) (hdg : decode cc pc = .ok (.istore_n i, 1)) (hp : okp lv i = true) (hn : (i : Nat) < nL) (hs : lv.set i (some (.int a)) = lv') (kk : WP x nL wd d Q (pc + 1) lv' st F L) : WP x nL wd d Q pc lv (.int a :: st) F L := by
  obtain ⟨p, l, e, R, s, m, args, below, meth, c⟩ := x
  intro ls H locs hl hP hS
  subst hs
  exact lv_istore_n hC.1 hC.2.1 hdg rfl hl hn rfl (fun ls' hl' => kk ls' H locs (LH.st (v := .int a) hp hl') hP hS)
theorem WP.lsn {i : Fin 4} {a : Int64} {lv' : List (Option Value)} (hC : Cx x cc nL own ret rm wd d) (hdg : decode cc pc = .ok (.lstore_n i, 1)) (hp : okp2 lv i = true) (hn : (i : Nat) + 1 < nL) (hs : lv.set i (some (.long a)) = lv') (kk : WP x nL wd d Q (pc + 1) lv' st F L) : WP x nL wd d Q pc lv (.long a :: st) F L := by
  obtain ⟨p, l, e, R, s, m, args, below, meth, c⟩ := x
  intro ls H locs hl hP hS
  subst hs
  exact lv_lstore_n hC.1 hC.2.1 hdg rfl hl hn rfl (fun ls' hl' => kk ls' H locs (LH.st2 (v := .long a) hp hl') hP hS)
theorem WP.iinc {i : Nat} {n : Int} {a : Int32} {lv' : List (Option Value)} (hC : Cx x cc nL own ret rm wd d) (hdg : decode cc pc = .ok (.iinc i n, 3)) (hv : lv[i]? = some (some (.int a))) (v : Int32) (hw : a + Int32.ofInt n = v) (hp : okp lv i = true) (hn : i < nL) (hs : lv.set i (some (.int v)) = lv') (kk : WP x nL wd d Q (pc + 3) lv' st F L) : WP x nL wd d Q pc lv st F L := by
  obtain ⟨p, l, e, R, s, m, args, below, meth, c⟩ := x
  intro ls H locs hl hP hS
  subst hs
  have hm := lvA_mem (ad := d.2.1) (k := 0) hv
  rw [Nat.zero_add] at hm
  obtain ⟨k, hk⟩ := List.getElem?_of_mem hm
  exact lv_iinc hC.1 hC.2.1 hdg hl (k := k) hk hw hn rfl (fun ls' hl' => kk ls' H locs (LH.st (v := .int v) hp hl') hP hS)
theorem WP.ifeq {off : Int} {a : Int32} (hC : Cx x cc nL own ret rm wd d) (hdg : decode cc pc = .ok (.ifCond .eq off, 3)) (tgt : Nat) (ht : (pc : Int) + off = (tgt : Int)) (k1 : a = 0 → WP x nL wd d Q tgt lv st F L) (k2 : ¬ a = 0 → WP x nL wd d Q (pc + 3) lv st F L) : WP x nL wd d Q pc lv (.int a :: st) F L := by
  obtain ⟨p, l, e, R, s, m, args, below, meth, c⟩ := x
  intro ls H locs hl hP hS
  exact lv_if_eq hC.1 hC.2.1 hdg ht (fun h => k1 h ls H locs hl hP hS) (fun h => k2 h ls H locs hl hP hS)
theorem WP.ifne {off : Int} {a : Int32} (hC : Cx x cc nL own ret rm wd d) (hdg : decode cc pc = .ok (.ifCond .ne off, 3)) (tgt : Nat) (ht : (pc : Int) + off = (tgt : Int)) (k1 : ¬ a = 0 → WP x nL wd d Q tgt lv st F L) (k2 : a = 0 → WP x nL wd d Q (pc + 3) lv st F L) : WP x nL wd d Q pc lv (.int a :: st) F L := by
  obtain ⟨p, l, e, R, s, m, args, below, meth, c⟩ := x
  intro ls H locs hl hP hS
  exact lv_if_ne hC.1 hC.2.1 hdg ht (fun h => k1 h ls H locs hl hP hS) (fun h => k2 h ls H locs hl hP hS)
theorem WP.iflt {off : Int} {a : Int32} (hC : Cx x cc nL own ret rm wd d) (hdg : decode cc pc = .ok (.ifCond .lt off, 3)) (tgt : Nat) (ht : (pc : Int) + off = (tgt : Int)) (k1 : a < 0 → WP x nL wd d Q tgt lv st F L) (k2 : ¬ a < 0 → WP x nL wd d Q (pc + 3) lv st F L) : WP x nL wd d Q pc lv (.int a :: st) F L := by
  obtain ⟨p, l, e, R, s, m, args, below, meth, c⟩ := x
  intro ls H locs hl hP hS
  exact lv_if_lt hC.1 hC.2.1 hdg ht (fun h => k1 h ls H locs hl hP hS) (fun h => k2 h ls H locs hl hP hS)
theorem WP.ifge {off : Int} {a : Int32} (hC : Cx x cc nL own ret rm wd d) (hdg : decode cc pc = .ok (.ifCond .ge off, 3)) (tgt : Nat) (ht : (pc : Int) + off = (tgt : Int)) (k1 : 0 ≤ a → WP x nL wd d Q tgt lv st F L) (k2 : ¬ 0 ≤ a → WP x nL wd d Q (pc + 3) lv st F L) : WP x nL wd d Q pc lv (.int a :: st) F L := by
  obtain ⟨p, l, e, R, s, m, args, below, meth, c⟩ := x
  intro ls H locs hl hP hS
  exact lv_if_ge hC.1 hC.2.1 hdg ht (fun h => k1 h ls H locs hl hP hS) (fun h => k2 h ls H locs hl hP hS)
theorem WP.ifgt {off : Int} {a : Int32} (hC : Cx x cc nL own ret rm wd d) (hdg : decode cc pc = .ok (.ifCond .gt off, 3)) (tgt : Nat) (ht : (pc : Int) + off = (tgt : Int)) (k1 : 0 < a → WP x nL wd d Q tgt lv st F L) (k2 : ¬ 0 < a → WP x nL wd d Q (pc + 3) lv st F L) : WP x nL wd d Q pc lv (.int a :: st) F L := by
  obtain ⟨p, l, e, R, s, m, args, below, meth, c⟩ := x
  intro ls H locs hl hP hS
  exact lv_if_gt hC.1 hC.2.1 hdg ht (fun h => k1 h ls H locs hl hP hS) (fun h => k2 h ls H locs hl hP hS)
theorem WP.ifle {off : Int} {a : Int32} (hC : Cx x cc nL own ret rm wd d) (hdg : decode cc pc = .ok (.ifCond .le off, 3)) (tgt : Nat) (ht : (pc : Int) + off = (tgt : Int)) (k1 : a ≤ 0 → WP x nL wd d Q tgt lv st F L) (k2 : ¬ a ≤ 0 → WP x nL wd d Q (pc + 3) lv st F L) : WP x nL wd d Q pc lv (.int a :: st) F L := by
  obtain ⟨p, l, e, R, s, m, args, below, meth, c⟩ := x
  intro ls H locs hl hP hS
  exact lv_if_le hC.1 hC.2.1 hdg ht (fun h => k1 h ls H locs hl hP hS) (fun h => k2 h ls H locs hl hP hS)
theorem WP.iceq {off : Int} {a b : Int32} (hC : Cx x cc nL own ret rm wd d) (hdg : decode cc pc = .ok (.if_icmp .eq off, 3)) (tgt : Nat) (ht : (pc : Int) + off = (tgt : Int)) (k1 : a = b → WP x nL wd d Q tgt lv st F L) (k2 : ¬ a = b → WP x nL wd d Q (pc + 3) lv st F L) : WP x nL wd d Q pc lv (.int b :: .int a :: st) F L := by
  obtain ⟨p, l, e, R, s, m, args, below, meth, c⟩ := x
  intro ls H locs hl hP hS
  exact lv_icmp_eq hC.1 hC.2.1 hdg ht (fun h => k1 h ls H locs hl hP hS) (fun h => k2 h ls H locs hl hP hS)
theorem WP.icne {off : Int} {a b : Int32} (hC : Cx x cc nL own ret rm wd d) (hdg : decode cc pc = .ok (.if_icmp .ne off, 3)) (tgt : Nat) (ht : (pc : Int) + off = (tgt : Int)) (k1 : ¬ a = b → WP x nL wd d Q tgt lv st F L) (k2 : a = b → WP x nL wd d Q (pc + 3) lv st F L) : WP x nL wd d Q pc lv (.int b :: .int a :: st) F L := by
  obtain ⟨p, l, e, R, s, m, args, below, meth, c⟩ := x
  intro ls H locs hl hP hS
  exact lv_icmp_ne hC.1 hC.2.1 hdg ht (fun h => k1 h ls H locs hl hP hS) (fun h => k2 h ls H locs hl hP hS)
theorem WP.iclt {off : Int} {a b : Int32} (hC : Cx x cc nL own ret rm wd d) (hdg : decode cc pc = .ok (.if_icmp .lt off, 3)) (tgt : Nat) (ht : (pc : Int) + off = (tgt : Int)) (k1 : a < b → WP x nL wd d Q tgt lv st F L) (k2 : ¬ a < b → WP x nL wd d Q (pc + 3) lv st F L) : WP x nL wd d Q pc lv (.int b :: .int a :: st) F L := by
  obtain ⟨p, l, e, R, s, m, args, below, meth, c⟩ := x
  intro ls H locs hl hP hS
  exact lv_icmp_lt hC.1 hC.2.1 hdg ht (fun h => k1 h ls H locs hl hP hS) (fun h => k2 h ls H locs hl hP hS)
theorem WP.icge {off : Int} {a b : Int32} (hC : Cx x cc nL own ret rm wd d) (hdg : decode cc pc = .ok (.if_icmp .ge off, 3)) (tgt : Nat) (ht : (pc : Int) + off = (tgt : Int)) (k1 : b ≤ a → WP x nL wd d Q tgt lv st F L) (k2 : ¬ b ≤ a → WP x nL wd d Q (pc + 3) lv st F L) : WP x nL wd d Q pc lv (.int b :: .int a :: st) F L := by
  obtain ⟨p, l, e, R, s, m, args, below, meth, c⟩ := x
  intro ls H locs hl hP hS
  exact lv_icmp_ge hC.1 hC.2.1 hdg ht (fun h => k1 h ls H locs hl hP hS) (fun h => k2 h ls H locs hl hP hS)
theorem WP.icgt {off : Int} {a b : Int32} (hC : Cx x cc nL own ret rm wd d) (hdg : decode cc pc = .ok (.if_icmp .gt off, 3)) (tgt : Nat) (ht : (pc : Int) + off = (tgt : Int)) (k1 : b < a → WP x nL wd d Q tgt lv st F L) (k2 : ¬ b < a → WP x nL wd d Q (pc + 3) lv st F L) : WP x nL wd d Q pc lv (.int b :: .int a :: st) F L := by
  obtain ⟨p, l, e, R, s, m, args, below, meth, c⟩ := x
  intro ls H locs hl hP hS
  exact lv_icmp_gt hC.1 hC.2.1 hdg ht (fun h => k1 h ls H locs hl hP hS) (fun h => k2 h ls H locs hl hP hS)
theorem WP.icle {off : Int} {a b : Int32} (hC : Cx x cc nL own ret rm wd d) (hdg : decode cc pc = .ok (.if_icmp .le off, 3)) (tgt : Nat) (ht : (pc : Int) + off = (tgt : Int)) (k1 : a ≤ b → WP x nL wd d Q tgt lv st F L) (k2 : ¬ a ≤ b → WP x nL wd d Q (pc + 3) lv st F L) : WP x nL wd d Q pc lv (.int b :: .int a :: st) F L := by
  obtain ⟨p, l, e, R, s, m, args, below, meth, c⟩ := x
  intro ls H locs hl hP hS
  exact lv_icmp_le hC.1 hC.2.1 hdg ht (fun h => k1 h ls H locs hl hP hS) (fun h => k2 h ls H locs hl hP hS)
theorem WP.goto {off : Int} (hC : Cx x cc nL own ret rm wd d) (hdg : decode cc pc = .ok (.goto off, 3)) (tgt : Nat) (ht : (pc : Int) + off = (tgt : Int)) (kk : WP x nL wd d Q tgt lv st F L) : WP x nL wd d Q pc lv st F L := by
  obtain ⟨p, l, e, R, s, m, args, below, meth, c⟩ := x
  intro ls H locs hl hP hS
  exact lv_goto hC.1 hC.2.1 hdg ht (kk ls H locs hl hP hS)
theorem WP.tsOut {dflt lo hi : Int} {offs : Array Int} {len : Nat} {a : Int32} (hC : Cx x cc nL own ret rm wd d) (hdg : decode cc pc = .ok (.tableswitch dflt lo hi offs, len)) (tgt : Nat) (h : a.toInt < lo ∨ hi < a.toInt) (ht : (pc : Int) + dflt = (tgt : Int)) (kk : WP x nL wd d Q tgt lv st F L) : WP x nL wd d Q pc lv (.int a :: st) F L := by
  obtain ⟨p, l, e, R, s, m, args, below, meth, c⟩ := x
  intro ls H locs hl hP hS
  exact lv_tableOut hC.1 hC.2.1 hdg h ht (kk ls H locs hl hP hS)
theorem WP.tsIn {dflt lo hi off : Int} {offs : Array Int} {len : Nat} {a : Int32} (hC : Cx x cc nL own ret rm wd d) (hdg : decode cc pc = .ok (.tableswitch dflt lo hi offs, len)) (tgt : Nat) (h1 : ¬ a.toInt < lo) (h2 : ¬ hi < a.toInt) (ho : offs[(a.toInt - lo).toNat]? = some off) (ht : (pc : Int) + off = (tgt : Int)) (kk : WP x nL wd d Q tgt lv st F L) : WP x nL wd d Q pc lv (.int a :: st) F L := by
  obtain ⟨p, l, e, R, s, m, args, below, meth, c⟩ := x
  intro ls H locs hl hP hS
  exact lv_tableIn hC.1 hC.2.1 hdg h1 h2 ho ht (kk ls H locs hl hP hS)
def FL (own : String) (ix ci k : Nat) : Prop := ∃ (C : String) (T : u_T) (N : Nat), classes[ci]? = some (C, T, N) ∧ k < N ∧ Cond.fieldLink own ix (T k).1 (T k).2.1 (T k).2.2.1 ∈ gw ∧ ∀ w ∈ u_ws C T N, w ∈ gw
def FP (own : String) (ix ci k : Nat) (ty : FieldType) : Prop := ∃ (C : String) (T : u_T) (N : Nat) (ty0 : Nat → FieldType), classes[ci]? = some (C, T, N) ∧ k < N ∧ Cond.fieldLink own ix (T k).1 (T k).2.1 (T k).2.2.1 ∈ gw ∧ (∀ w ∈ u_ws C T N, w ∈ gw) ∧ (∀ k, k < N → parseFieldDescriptor (T k).2.2.1 = some (ty0 k)) ∧ (∀ a, a < N → ∀ b, b < N → a ≠ b → (T a).2.1 ≠ (T b).2.1) ∧ (T k).2.2.2 = false ∧ parseFieldDescriptor (T k).2.2.1 = some ty
theorem WP.gf {ix ci k i : Nat} {fs : List Value} {v : Value} (hC : Cx x cc nL own ret rm wd d) (hdg : decode cc pc = .ok (.getfield ix, 3)) (hf : FL own ix ci k) (hi : i < wd.2) (hc : cwd wd d i (F i) L = .inr (ci, fs)) (hv : fs[k]? = some v) (kk : WP x nL wd d Q (pc + 3) lv (v :: st) F L) : WP x nL wd d Q pc lv (.ref i :: st) F L := by
  obtain ⟨p, l, e, R, s, m, args, below, meth, c⟩ := x
  intro ls H locs hl hP hS
  obtain ⟨C, T, N, h1, h2, h3, h4⟩ := hf
  refine va_get (D := d.1) (ci := ci) (v := tv d.2.1 v) (fs := fs.map (tv d.2.1)) hC.1 hC.2.1 hC.2.2.2.2.1 h4 hC.2.2.2.1 hC.2.2.2.2.2.1 hP i ?_ h1 k h2 (hC.2.2.2.2.1 _ h3) (fun _ h9 => h9) ?_ hdg (kk ls H locs hl hP hS)
  · rw [tw_get hi, hc]; rfl
  · rw [List.getElem?_map, hv]; rfl
theorem WP.pf {ix ci k i : Nat} {fs : List Value} {v : Int32} {ty : FieldType} (hC : Cx x cc nL own ret rm wd d) (hdg : decode cc pc = .ok (.putfield ix, 3)) (hf : FP own ix ci k ty) (hn : narrow ty (.int v) = .int v) (ht : fits ty (.int v) = true) (hi : i < wd.2) (hc : cwd wd d i (F i) L = .inr (ci, fs)) (hc' : cwd wd d i (upd (F i) k v) L = .inr (ci, fs.set k (.int v))) (hk : k < fs.length) (kk : WP x nL wd d Q (pc + 3) lv st (up2 F i k v) L) : WP x nL wd d Q pc lv (.int v :: .ref i :: st) F L := by
  obtain ⟨p, l, e, R, s, m, args, below, meth, c⟩ := x
  intro ls H locs hl hP hS
  obtain ⟨C, T, N, ty0, h1, h2, h3, h4, h5, h6, h7, h8⟩ := hf
  refine va_put (D := d.1) (ci := ci) (v := .int v) (fs := fs.map (tv d.2.1)) hC.1 hC.2.1 hC.2.2.2.2.1 h4 ty0 h5 h6 hC.2.2.2.1 hC.2.2.2.2.2.1 hP (tw_D hC.2.2.2.2.2.2.1) hS i ?_ h1 k h2 (hC.2.2.2.2.1 _ h3) (fun _ h9 => h9) h7 h8 hn ht (by rw [List.length_map]; exact hk) hdg (fun H1 locs1 hP1 _ hS1 => kk ls H1 locs1 hl ?_ hS1)
  · rw [tw_get hi, hc]; rfl
  · have e1 : (fs.map (tv d.2.1)).set k (.int v) = (fs.set k (.int v)).map (tv d.2.1) := by rw [List.map_set]; rfl
    rw [e1] at hP1
    rw [up2, ← tw_set hi, hc']
    exact hP1
theorem WP.pfl {ix ci k i : Nat} {fs : List Value} {v : Int64} (hC : Cx x cc nL own ret rm wd d) (hdg : decode cc pc = .ok (.putfield ix, 3)) (hL : ∀ j, j ≠ i → ∀ f, cwd wd d j f L = cwd wd d j f v) (hf : FP own ix ci k .long) (hi : i < wd.2) (hc : cwd wd d i (F i) L = .inr (ci, fs)) (hc' : cwd wd d i (F i) v = .inr (ci, fs.set k (.long v))) (hk : k < fs.length) (kk : WP x nL wd d Q (pc + 3) lv st F v) : WP x nL wd d Q pc lv (.long v :: .ref i :: st) F L := by
  obtain ⟨p, l, e, R, s, m, args, below, meth, c⟩ := x
  intro ls H locs hl hP hS
  obtain ⟨C, T, N, ty0, h1, h2, h3, h4, h5, h6, h7, h8⟩ := hf
  refine va_put (D := d.1) (ci := ci) (v := .long v) (fs := fs.map (tv d.2.1)) hC.1 hC.2.1 hC.2.2.2.2.1 h4 ty0 h5 h6 hC.2.2.2.1 hC.2.2.2.2.2.1 hP (tw_D hC.2.2.2.2.2.2.1) hS i ?_ h1 k h2 (hC.2.2.2.2.1 _ h3) (fun _ h9 => h9) h7 h8 rfl rfl (by rw [List.length_map]; exact hk) hdg (fun H1 locs1 hP1 _ hS1 => kk ls H1 locs1 hl ?_ hS1)
  · rw [tw_get hi, hc]; rfl
  · have e1 : (fs.map (tv d.2.1)).set k (.long v) = (fs.set k (.long v)).map (tv d.2.1) := by rw [List.map_set]; rfl
    rw [e1] at hP1
    rw [← tw_setL hi hL, hc']
    exact hP1
theorem ty_i (d : DC) : (tys3 d)[0]? = some (d.2.2.1, .int) := rfl
theorem ty_z (d : DC) : (tys3 d)[1]? = some (d.2.2.2.1, .boolean) := rfl
theorem ty_r (d : DC) : (tys3 d)[2]? = some (d.2.2.2.2.1, .object "NewRays$Bench") := rfl
theorem WP.ial {i n : Nat} {a : Int32} {f : Nat → Int32} (hC : Cx x cc nL own ret rm wd d) (hdg : decode cc pc = .ok (.iaload, 1)) (j : Nat) (ha : a = nI j) (hj : j < n) (hi : i < wd.2) (hc : cwd wd d i (F i) L = .inl (d.2.2.1, n, .inl f)) (hn : n < 2 ^ 31) (kk : WP x nL wd d Q (pc + 1) lv (.int (f j) :: st) F L) : WP x nL wd d Q pc lv (.int a :: .ref i :: st) F L := by
  obtain ⟨p, l, e, R, s, m, args, below, meth, c⟩ := x
  intro ls H locs hl hP hS
  subst ha
  refine va_iald hC.1 hC.2.1 hC.2.2.2.2.2.1 hP i 0 (n := n) (f := f) (by rw [tw_get hi, hc]; rfl) rfl (vp_in_nI hj hn) hdg ?_
  rw [nI_clamp (by omega)]
  exact (kk ls H locs hl hP hS)
theorem WP.zal {i n : Nat} {a : Int32} {f : Nat → Int32} (hC : Cx x cc nL own ret rm wd d) (hdg : decode cc pc = .ok (.baload, 1)) (j : Nat) (ha : a = nI j) (hj : j < n) (hi : i < wd.2) (hc : cwd wd d i (F i) L = .inl (d.2.2.2.1, n, .inl f)) (hn : n < 2 ^ 31) (kk : WP x nL wd d Q (pc + 1) lv (.int (f j) :: st) F L) : WP x nL wd d Q pc lv (.int a :: .ref i :: st) F L := by
  obtain ⟨p, l, e, R, s, m, args, below, meth, c⟩ := x
  intro ls H locs hl hP hS
  subst ha
  refine va_zald hC.1 hC.2.1 hC.2.2.2.2.2.1 hP i 1 (n := n) (f := f) (by rw [tw_get hi, hc]; rfl) rfl (vp_in_nI hj hn) hdg ?_
  rw [nI_clamp (by omega)]
  exact (kk ls H locs hl hP hS)
theorem WP.ias {i n : Nat} {a v : Int32} {f : Nat → Int32} (hC : Cx x cc nL own ret rm wd d) (hdg : decode cc pc = .ok (.iastore, 1)) (j : Nat) (ha : a = nI j) (hj : j < n) (hi : i < wd.2) (hc : cwd wd d i (F i) L = .inl (d.2.2.1, n, .inl f)) (hc' : cwd wd d i (upd (F i) j v) L = .inl (d.2.2.1, n, .inl (upd f j v))) (hn : n < 2 ^ 31) (kk : WP x nL wd d Q (pc + 1) lv st (up2 F i j v) L) : WP x nL wd d Q pc lv (.int v :: .int a :: .ref i :: st) F L := by
  obtain ⟨p, l, e, R, s, m, args, below, meth, c⟩ := x
  intro ls H locs hl hP hS
  subst ha
  refine va_iast hC.1 hC.2.1 hC.2.2.2.2.2.1 hP (tw_D hC.2.2.2.2.2.2.1) hS i 0 (n := n) (f := f) (by rw [tw_get hi, hc]; rfl) rfl (vp_in_nI hj hn) hdg (fun H1 locs1 hP1 _ hS1 => kk ls H1 locs1 hl ?_ hS1)
  rw [nI_clamp (by omega)] at hP1
  rw [up2, ← tw_set hi, hc']
  exact hP1
theorem nar_z {v : Int32} (h : v = 0 ∨ v = 1) : vp_nar .boolean v = v ∧ narrow .boolean (.int v) = .int v ∧ fits .boolean (.int v) = true := by
  rcases h with rfl | rfl <;> exact ⟨by decide, by decide, by decide⟩
theorem WP.zas {i n : Nat} {a v : Int32} {f : Nat → Int32} (hC : Cx x cc nL own ret rm wd d) (hdg : decode cc pc = .ok (.bastore, 1)) (j : Nat) (ha : a = nI j) (hj : j < n) (hz : v = 0 ∨ v = 1) (hi : i < wd.2) (hc : cwd wd d i (F i) L = .inl (d.2.2.2.1, n, .inl f)) (hc' : cwd wd d i (upd (F i) j v) L = .inl (d.2.2.2.1, n, .inl (upd f j v))) (hn : n < 2 ^ 31) (kk : WP x nL wd d Q (pc + 1) lv st (up2 F i j v) L) : WP x nL wd d Q pc lv (.int v :: .int a :: .ref i :: st) F L := by
  obtain ⟨p, l, e, R, s, m, args, below, meth, c⟩ := x
  intro ls H locs hl hP hS
  subst ha
  refine va_zast hC.1 hC.2.1 hC.2.2.2.2.2.1 hP (tw_D hC.2.2.2.2.2.2.1) hS i 1 (n := n) (f := f) (by rw [tw_get hi, hc]; rfl) rfl (vp_in_nI hj hn) hdg (fun H1 locs1 hP1 _ hS1 => kk ls H1 locs1 hl ?_ hS1)
  rw [nI_clamp (by omega), (nar_z hz).1] at hP1
  rw [up2, ← tw_set hi, hc']
  exact hP1
theorem WP.ral {i n k : Nat} {a : Int32} {f : Nat → Option Nat} (hC : Cx x cc nL own ret rm wd d) (hdg : decode cc pc = .ok (.aaload, 1)) (j : Nat) (ha : a = nI j) (hj : j < n) (hi : i < wd.2) (hc : cwd wd d i (F i) L = .inl (d.2.2.2.2.1, n, .inr (.inr (.inr (.inr f))))) (hn : n < 2 ^ 31) (hf : f j = some k) (kk : WP x nL wd d Q (pc + 1) lv (.ref k :: st) F L) : WP x nL wd d Q pc lv (.int a :: .ref i :: st) F L := by
  obtain ⟨p, l, e, R, s, m, args, below, meth, c⟩ := x
  intro ls H locs hl hP hS
  subst ha
  refine va_aldq hC.1 hC.2.1 hC.2.2.2.2.2.1 hP i 2 (n := n) (f := fun j => (f j).map d.2.1) (by rw [tw_get hi, hc]; rfl) rfl (vp_in_nI hj hn) hdg ?_
  rw [nI_clamp (by omega), hf]
  exact (kk ls H locs hl hP hS)
theorem WP.alen {i n : Nat} {f : Nat → Int32} (hC : Cx x cc nL own ret rm wd d) (hdg : decode cc pc = .ok (.arraylength, 1)) (hi : i < wd.2) (hc : cwd wd d i (F i) L = .inl (d.2.2.1, n, .inl f)) (kk : WP x nL wd d Q (pc + 1) lv (.int (nI n) :: st) F L) : WP x nL wd d Q pc lv (.ref i :: st) F L := by
  obtain ⟨p, l, e, R, s, m, args, below, meth, c⟩ := x
  intro ls H locs hl hP hS
  exact va_alen hC.1 hC.2.1 hC.2.2.2.2.2.1 hP i 0 (x := (n, .inl f)) (by rw [tw_get hi, hc]; rfl) rfl (v := nI n) rfl hdg (kk ls H locs hl hP hS)
theorem WP.lenT {ix : Nat} (hC : Cx x cc nL own ret rm wd d) (hdg : decode cc pc = .ok (.getstatic ix, 3)) (hw : Cond.fieldLink own ix "NewRays" "TENS" "[I" ∈ gw) (hd2 : decode cc (pc + 3) = .ok (.arraylength, 1)) (kk : WP x nL wd d Q (pc + 3 + 1) lv (.int 9 :: st) F L) : WP x nL wd d Q pc lv st F L := by
  obtain ⟨p, l, e, R, s, m, args, below, meth, c⟩ := x
  intro ls H locs hl hP hS
  have hSt := hC.2.2.2.2.2.2.2.1
  refine va_gets hC.1 hC.2.1 hSt.1.out2 hS hC.2.2.2.1 (hC.2.2.2.2.1 _ hw) (fun _ h => h) hdg ?_
  exact va_tlen hC.1 hC.2.1 hSt.2.1.out2 hS (v := 9) (by decide) hd2 (kk ls H locs hl hP hS)
theorem WP.ldT {ix : Nat} {i : Fin 4} {a : Int32} (hC : Cx x cc nL own ret rm wd d) (hdg : decode cc pc = .ok (.getstatic ix, 3)) (j : Nat) (ha : a = nI j) (hj : j < 9) (hv : lv[(i : Nat)]? = some (some (.int a))) (hw : Cond.fieldLink own ix "NewRays" "TENS" "[I" ∈ gw) (hd2 : decode cc (pc + 3) = .ok (.iload_n i, 1)) (hd3 : decode cc (pc + 3 + 1) = .ok (.iaload, 1)) (kk : WP x nL wd d Q (pc + 3 + 1 + 1) lv (.int (tensV.getD j 0) :: st) F L) : WP x nL wd d Q pc lv st F L := by
  obtain ⟨p, l, e, R, s, m, args, below, meth, c⟩ := x
  intro ls H locs hl hP hS
  have hSt := hC.2.2.2.2.2.2.2.1
  subst ha
  refine va_gets hC.1 hC.2.1 hSt.1.out2 hS hC.2.2.2.1 (hC.2.2.2.2.1 _ hw) (fun _ h => h) hdg ?_
  refine lv_iload_n hC.1 hC.2.1 hd2 rfl (hl.at hv) ?_
  exact va_ti hC.1 hC.2.1 hSt.2.1.out2 hS (vp_in_nI hj (by decide)) (v := .int (tensV.getD j 0)) (by rw [nI_clamp (by omega)]) hd3 (kk ls H locs hl hP hS)
theorem WP.lenF {ix : Nat} (hC : Cx x cc nL own ret rm wd d) (hdg : decode cc pc = .ok (.getstatic ix, 3)) (hw : Cond.fieldLink own ix "NewRays" "FACTORIALS" "[I" ∈ gw) (hd2 : decode cc (pc + 3) = .ok (.arraylength, 1)) (kk : WP x nL wd d Q (pc + 3 + 1) lv (.int 6 :: st) F L) : WP x nL wd d Q pc lv st F L := by
  obtain ⟨p, l, e, R, s, m, args, below, meth, c⟩ := x
  intro ls H locs hl hP hS
  have hSt := hC.2.2.2.2.2.2.2.1
  refine va_gets hC.1 hC.2.1 hSt.2.2.1.out2 hS hC.2.2.2.1 (hC.2.2.2.2.1 _ hw) (fun _ h => h) hdg ?_
  exact va_tlen hC.1 hC.2.1 hSt.2.2.2.out2 hS (v := 6) (by decide) hd2 (kk ls H locs hl hP hS)
theorem WP.ldF {ix : Nat} {i : Fin 4} {a : Int32} (hC : Cx x cc nL own ret rm wd d) (hdg : decode cc pc = .ok (.getstatic ix, 3)) (j : Nat) (ha : a = nI j) (hj : j < 6) (hv : lv[(i : Nat)]? = some (some (.int a))) (hw : Cond.fieldLink own ix "NewRays" "FACTORIALS" "[I" ∈ gw) (hd2 : decode cc (pc + 3) = .ok (.iload_n i, 1)) (hd3 : decode cc (pc + 3 + 1) = .ok (.iaload, 1)) (kk : WP x nL wd d Q (pc + 3 + 1 + 1) lv (.int (factV.getD j 0) :: st) F L) : WP x nL wd d Q pc lv st F L := by
  obtain ⟨p, l, e, R, s, m, args, below, meth, c⟩ := x
  intro ls H locs hl hP hS
  have hSt := hC.2.2.2.2.2.2.2.1
  subst ha
  refine va_gets hC.1 hC.2.1 hSt.2.2.1.out2 hS hC.2.2.2.1 (hC.2.2.2.2.1 _ hw) (fun _ h => h) hdg ?_
  refine lv_iload_n hC.1 hC.2.1 hd2 rfl (hl.at hv) ?_
  exact va_ti hC.1 hC.2.1 hSt.2.2.2.out2 hS (vp_in_nI hj (by decide)) (v := .int (factV.getD j 0)) (by rw [nI_clamp (by omega)]) hd3 (kk ls H locs hl hP hS)
def rmx (f n : Nat) : Room := { frames := f, cells := 0, slots := 0, locals := n }
def Pre0 (wd : WD) (d : DC) (av : List Value) (F : FF) (L : Int64) (sz : Nat) : Array Value → State → Prop := va_Pc (av.map (tv d.2.1)) (fun U => U.heap.size = sz ∧ va_P d.1 classes (tw wd d F L) U.heap ∧ va_K d.1 classes (tys3 d) U ∧ apart wd d ∧ St wd d U)
def CI (l : Launch) (y : MethodName) (b : ByteArray) (nL : Nat) (ret : Option FieldType) (rm : Room) (wd : WD) (av : List Value) (F : FF) (L : Int64) (r : Int32) (F' : FF) (L' : Int64) : Prop := ∀ (d : DC) (sz : Nat), Met l y (.code y b nL ret :: gw) rm (Pre0 wd d av F L sz) (va_Qi (fun r' (_ : Unit) => r' = r) (fun _ t => va_P d.1 classes (tw wd d F' L') t.heap) (AA wd d sz)) 0 0 (AA wd d sz)
def CL (l : Launch) (y : MethodName) (b : ByteArray) (nL : Nat) (ret : Option FieldType) (rm : Room) (wd : WD) (av : List Value) (F : FF) (L : Int64) (r : Int64) (F' : FF) (L' : Int64) : Prop := ∀ (d : DC) (sz : Nat), Met l y (.code y b nL ret :: gw) rm (Pre0 wd d av F L sz) (va_Ql (fun r' (_ : Unit) => r' = r) (fun _ t => va_P d.1 classes (tw wd d F' L') t.heap) (AA wd d sz)) 0 0 (AA wd d sz)
def CV (l : Launch) (y : MethodName) (b : ByteArray) (nL : Nat) (ret : Option FieldType) (rm : Room) (wd : WD) (av : List Value) (F : FF) (L : Int64) (F' : FF) (L' : Int64) : Prop := ∀ (d : DC) (sz : Nat), Met l y (.code y b nL ret :: gw) rm (Pre0 wd d av F L sz) (va_Qv (fun (_ : Unit) => True) (fun _ t => va_P d.1 classes (tw wd d F' L') t.heap) (AA wd d sz)) 0 0 (AA wd d sz)
def QI (x : MC) (wd : WD) (d : DC) (r : Int32) (F' : FF) (L' : Int64) : State → Prop := match x with
  | (_, _, _, _, s, _, args, below, _, _) => MQ below (va_Qi (fun r' (_ : Unit) => r' = r) (fun _ t => va_P d.1 classes (tw wd d F' L') t.heap) (AA wd d s.heap.size)) args s 0 0 (AA wd d s.heap.size)
def QL (x : MC) (wd : WD) (d : DC) (r : Int64) (F' : FF) (L' : Int64) : State → Prop := match x with
  | (_, _, _, _, s, _, args, below, _, _) => MQ below (va_Ql (fun r' (_ : Unit) => r' = r) (fun _ t => va_P d.1 classes (tw wd d F' L') t.heap) (AA wd d s.heap.size)) args s 0 0 (AA wd d s.heap.size)
def QV (x : MC) (wd : WD) (d : DC) (F' : FF) (L' : Int64) : State → Prop := match x with
  | (_, _, _, _, s, _, args, below, _, _) => MQ below (va_Qv (fun (_ : Unit) => True) (fun _ t => va_P d.1 classes (tw wd d F' L') t.heap) (AA wd d s.heap.size)) args s 0 0 (AA wd d s.heap.size)
theorem lw_goodIn {y : MethodName} {b : ByteArray} {nL : Nat} {ret : Option FieldType} (h : Cond.code y b nL ret ∈ gw) : GoodIn gw (.code y b nL ret :: gw) := by
  intro w hw
  have hm : w ∈ gw := by
    rcases List.mem_cons.mp hw with e | e
    · rw [e]; exact h
    · exact e
  exact ⟨hm, good_of_word (gw_good w hm).2⟩
/-- the words of a static call -/
def SL (own : String) (ix : Nat) (y : MethodName) (b : ByteArray) (nL : Nat) (ret : Option FieldType) (n : Nat) : Prop := Cond.methodLink own ix y ∈ gw ∧ Cond.static y ∈ gw ∧ Cond.initialized y.cls ∈ gw ∧ Cond.code y b nL ret ∈ gw ∧ y.cls ≠ "java/lang/invoke/MethodHandle" ∧ y.cls ≠ "java/lang/invoke/VarHandle" ∧ (parseMethodDescriptor y.desc).map (fun d => d.parameters.length) = some n
/-- the words of a call on an object -/
def VL (own : String) (ix : Nat) (ci : Nat) (y : MethodName) (b : ByteArray) (nL : Nat) (ret : Option FieldType) (n : Nat) : Prop := Cond.methodLink own ix y ∈ gw ∧ Cond.instanceMethod y ∈ gw ∧ Cond.selects y.cls y y ∈ gw ∧ Cond.initialized y.cls ∈ gw ∧ Cond.code y b nL ret ∈ gw ∧ y.cls ≠ "java/lang/invoke/MethodHandle" ∧ y.cls ≠ "java/lang/invoke/VarHandle" ∧ (parseMethodDescriptor y.desc).map (fun d => d.parameters.length) = some n ∧ ∃ (T : u_T) (N : Nat), classes[ci]? = some (y.cls, T, N)
theorem Pre0_blind {wd : WD} {d : DC} {av : List Value} {F : FF} {L : Int64} {sz : Nat} : FrameBlind (Pre0 wd d av F L sz) := by
  intro a U g mk ⟨q0, q1, qP, qK, qD, qS⟩
  exact ⟨q0, q1, qP, va_K.moved (u := U) (U := U.calling g mk a) (Vm.Alike.refl U.vm) qK, qD, St.moved (u := U) (U := U.calling g mk a) (Vm.Alike.refl U.vm) rfl qS⟩
theorem cb_of {R : Room} {s : State} {args : Array Value} {own : String} {ix : Nat} {y : MethodName} {b : ByteArray} {nL n f k : Nat} {ret : Option FieldType} (hts : ∀ w ∈ gw, w.before args s = true) (h1 : Cond.methodLink own ix y ∈ gw) (h2 : Cond.initialized y.cls ∈ gw) (h3 : Cond.code y b nL ret ∈ gw) (h4 : y.cls ≠ "java/lang/invoke/MethodHandle" ∧ y.cls ≠ "java/lang/invoke/VarHandle" ∧ (parseMethodDescriptor y.desc).map (fun d => d.parameters.length) = some n) (hR : f + 1 ≤ R.frames ∧ 8 + (nL + 11) + k ≤ R.locals) : CallB R s args own ix y b nL ret (.code y b nL ret :: gw) (rmx f k) 0 0 n :=
  callB_of n hts (lw_goodIn h3) rfl rfl rfl (hts _ h2) (hts _ h1) h4 hR
theorem cat_map (ad : Nat → Nat) (l : List Value) : ((l.map (tv ad)).map fun v => v.category) = l.map fun v => v.category := by
  rw [List.map_map]
  exact List.map_congr_left (fun v _ => tv_cat ad v)
theorem AA_le {wd : WD} {d : DC} {a b : Nat} (h : a ≤ b) : ∀ q, AA wd d b q → AA wd d a q := by
  rintro q (z | z)
  · exact Or.inl z
  · exact Or.inr (Nat.le_trans h z)
theorem WP.callSI {ix n f k nL' : Nat} {y : MethodName} {b : ByteArray} {ret' : Option FieldType} {av rest : List Value} {r : Int32} {F' : FF} {L' : Int64} (hC : Cx x cc nL own ret rm wd d) (hdg : decode cc pc = .ok (.invokestatic ix, 3)) (hM : CI x.2.1 y b nL' ret' (rmx f k) wd av F L r F' L') (hw : SL own ix y b nL' ret' n) (hn : av.length = n) (hst : st = av.reverse ++ rest) (hcat : (rest.map fun v => v.category).sum ≤ 8) (hR : f + 1 ≤ rm.frames ∧ 8 + (nL' + 11) + k ≤ rm.locals) (kk : WP x nL wd d Q (pc + 3) lv (.int r :: rest) F' L') : WP x nL wd d Q pc lv st F L := by
  obtain ⟨p, l, e, R, s, m, args, below, meth, c⟩ := x
  intro ls H locs hl hP hS
  obtain ⟨w1, w2, w3, w4, w5, w6, w7⟩ := hw
  subst hst
  obtain rfl : R = rm := hC.2.2.2.2.2.2.2.2.2.2
  refine va_calli (va_runS (As := av.map (tv d.2.1)) (rest := rest.map (tv d.2.1)) (Ts := gw) (own := own) ⟨hC.1, hC.2.1, hC.2.2.1, hC.2.2.2.1, hC.2.2.2.2.1⟩ (hM d H.size) ⟨cb_of hC.2.2.2.2.1 w1 w3 w4 ⟨w5, w6, w7⟩ hR, hC.2.2.2.2.1 _ w2⟩ ⟨Pre0_blind, fun U hU hW => ⟨rfl, by rw [hU], by rw [hU]; exact hP, va_K.moved hW.alike hC.2.2.2.2.2.1, hC.2.2.2.2.2.2.1, St.kept hW.alike hU hS hC.2.2.2.2.2.2.2.1⟩⟩ rfl (by rw [List.length_map]; exact hn) hl.1 (by rw [List.map_append, List.map_reverse]) (lv_room (by rw [cat_map]; exact hcat)) hdg ⟨Nat.zero_le _, Nat.zero_le _⟩) hS (fun q _ h => AA_le hS.1 q h) (AA_le hS.1) (fun r0 u t H1 locs1 ht _ hr0 hB _ _ hS1 => by subst hr0; rw [ht] at hB; exact kk ls H1 locs1 hl hB hS1)
theorem WP.callVI {ix n f k nL' i ci : Nat} {y : MethodName} {b : ByteArray} {ret' : Option FieldType} {av rest fs : List Value} {r : Int32} {F' : FF} {L' : Int64} (hC : Cx x cc nL own ret rm wd d) (hdg : decode cc pc = .ok (.invokevirtual ix, 3)) (hM : CI x.2.1 y b nL' ret' (rmx f k) wd (.ref i :: av) F L r F' L') (hw : VL own ix ci y b nL' ret' n) (hn : av.length = n) (hst : st = av.reverse ++ .ref i :: rest) (hi : i < wd.2) (hc : cwd wd d i (F i) L = .inr (ci, fs)) (hcat : (rest.map fun v => v.category).sum ≤ 8) (hR : f + 1 ≤ rm.frames ∧ 8 + (nL' + 11) + k ≤ rm.locals) (kk : WP x nL wd d Q (pc + 3) lv (.int r :: rest) F' L') : WP x nL wd d Q pc lv st F L := by
  obtain ⟨p, l, e, R, s, m, args, below, meth, c⟩ := x
  intro ls H locs hl hP hS
  obtain ⟨w1, w2, w3, w4, w5, w6, w7, w8, T, N, w9⟩ := hw
  subst hst
  obtain rfl : R = rm := hC.2.2.2.2.2.2.2.2.2.2
  refine va_calli (va_runV (As := av.map (tv d.2.1)) (rest := rest.map (tv d.2.1)) (Ts := gw) (own := own) (C := y.cls) (b := d.2.1 i) ⟨hC.1, hC.2.1, hC.2.2.1, hC.2.2.2.1, hC.2.2.2.2.1⟩ (hM d H.size) ⟨cb_of hC.2.2.2.2.1 w1 w4 w5 ⟨w6, w7, w8⟩ hR, hC.2.2.2.2.1 _ w2, hC.2.2.2.2.1 _ w3⟩ ⟨Pre0_blind, va_recv hC.2.2.2.2.2.1 hP (ci := ci) (q := (y.cls, T, N)) (q0 := i) (fs := fs.map (tv d.2.1)) w9 (by rw [tw_get hi, hc]; rfl), fun U hU hW => ⟨rfl, by rw [hU], by rw [hU]; exact hP, va_K.moved hW.alike hC.2.2.2.2.2.1, hC.2.2.2.2.2.2.1, St.kept hW.alike hU hS hC.2.2.2.2.2.2.2.1⟩⟩ rfl (by rw [List.length_map]; exact hn) hl.1 (by rw [List.map_append, List.map_reverse]; rfl) (lv_room (by rw [cat_map]; exact hcat)) hdg ⟨Nat.zero_le _, Nat.zero_le _⟩) hS (fun q _ h => AA_le hS.1 q h) (AA_le hS.1) (fun r0 u t H1 locs1 ht _ hr0 hB _ _ hS1 => by subst hr0; rw [ht] at hB; exact kk ls H1 locs1 hl hB hS1)
theorem WP.callVL {ix n f k nL' i ci : Nat} {y : MethodName} {b : ByteArray} {ret' : Option FieldType} {av rest fs : List Value} {r : Int64} {F' : FF} {L' : Int64} (hC : Cx x cc nL own ret rm wd d) (hdg : decode cc pc = .ok (.invokevirtual ix, 3)) (hM : CL x.2.1 y b nL' ret' (rmx f k) wd (.ref i :: av) F L r F' L') (hw : VL own ix ci y b nL' ret' n) (hn : av.length = n) (hst : st = av.reverse ++ .ref i :: rest) (hi : i < wd.2) (hc : cwd wd d i (F i) L = .inr (ci, fs)) (hcat : (rest.map fun v => v.category).sum ≤ 8) (hR : f + 1 ≤ rm.frames ∧ 8 + (nL' + 11) + k ≤ rm.locals) (kk : WP x nL wd d Q (pc + 3) lv (.long r :: rest) F' L') : WP x nL wd d Q pc lv st F L := by
  obtain ⟨p, l, e, R, s, m, args, below, meth, c⟩ := x
  intro ls H locs hl hP hS
  obtain ⟨w1, w2, w3, w4, w5, w6, w7, w8, T, N, w9⟩ := hw
  subst hst
  obtain rfl : R = rm := hC.2.2.2.2.2.2.2.2.2.2
  refine va_calll (va_runV (As := av.map (tv d.2.1)) (rest := rest.map (tv d.2.1)) (Ts := gw) (own := own) (C := y.cls) (b := d.2.1 i) ⟨hC.1, hC.2.1, hC.2.2.1, hC.2.2.2.1, hC.2.2.2.2.1⟩ (hM d H.size) ⟨cb_of hC.2.2.2.2.1 w1 w4 w5 ⟨w6, w7, w8⟩ hR, hC.2.2.2.2.1 _ w2, hC.2.2.2.2.1 _ w3⟩ ⟨Pre0_blind, va_recv hC.2.2.2.2.2.1 hP (ci := ci) (q := (y.cls, T, N)) (q0 := i) (fs := fs.map (tv d.2.1)) w9 (by rw [tw_get hi, hc]; rfl), fun U hU hW => ⟨rfl, by rw [hU], by rw [hU]; exact hP, va_K.moved hW.alike hC.2.2.2.2.2.1, hC.2.2.2.2.2.2.1, St.kept hW.alike hU hS hC.2.2.2.2.2.2.2.1⟩⟩ rfl (by rw [List.length_map]; exact hn) hl.1 (by rw [List.map_append, List.map_reverse]; rfl) (lv_room (by rw [cat_map]; exact hcat)) hdg ⟨Nat.zero_le _, Nat.zero_le _⟩) hS (fun q _ h => AA_le hS.1 q h) (AA_le hS.1) (fun r0 u t H1 locs1 ht _ hr0 hB _ _ hS1 => by subst hr0; rw [ht] at hB; exact kk ls H1 locs1 hl hB hS1)
theorem WP.callVV {ix n f k nL' i ci : Nat} {y : MethodName} {b : ByteArray} {ret' : Option FieldType} {av rest fs : List Value} {F' : FF} {L' : Int64} (hC : Cx x cc nL own ret rm wd d) (hdg : decode cc pc = .ok (.invokevirtual ix, 3)) (hM : CV x.2.1 y b nL' ret' (rmx f k) wd (.ref i :: av) F L F' L') (hw : VL own ix ci y b nL' ret' n) (hn : av.length = n) (hst : st = av.reverse ++ .ref i :: rest) (hi : i < wd.2) (hc : cwd wd d i (F i) L = .inr (ci, fs)) (hcat : (rest.map fun v => v.category).sum ≤ 8) (hR : f + 1 ≤ rm.frames ∧ 8 + (nL' + 11) + k ≤ rm.locals) (kk : WP x nL wd d Q (pc + 3) lv rest F' L') : WP x nL wd d Q pc lv st F L := by
  obtain ⟨p, l, e, R, s, m, args, below, meth, c⟩ := x
  intro ls H locs hl hP hS
  obtain ⟨w1, w2, w3, w4, w5, w6, w7, w8, T, N, w9⟩ := hw
  subst hst
  obtain rfl : R = rm := hC.2.2.2.2.2.2.2.2.2.2
  refine va_callv (va_runV (As := av.map (tv d.2.1)) (rest := rest.map (tv d.2.1)) (Ts := gw) (own := own) (C := y.cls) (b := d.2.1 i) ⟨hC.1, hC.2.1, hC.2.2.1, hC.2.2.2.1, hC.2.2.2.2.1⟩ (hM d H.size) ⟨cb_of hC.2.2.2.2.1 w1 w4 w5 ⟨w6, w7, w8⟩ hR, hC.2.2.2.2.1 _ w2, hC.2.2.2.2.1 _ w3⟩ ⟨Pre0_blind, va_recv hC.2.2.2.2.2.1 hP (ci := ci) (q := (y.cls, T, N)) (q0 := i) (fs := fs.map (tv d.2.1)) w9 (by rw [tw_get hi, hc]; rfl), fun U hU hW => ⟨rfl, by rw [hU], by rw [hU]; exact hP, va_K.moved hW.alike hC.2.2.2.2.2.1, hC.2.2.2.2.2.2.1, St.kept hW.alike hU hS hC.2.2.2.2.2.2.2.1⟩⟩ rfl (by rw [List.length_map]; exact hn) hl.1 (by rw [List.map_append, List.map_reverse]; rfl) (lv_room (by rw [cat_map]; exact hcat)) hdg ⟨Nat.zero_le _, Nat.zero_le _⟩) hS (fun q _ h => AA_le hS.1 q h) (AA_le hS.1) (fun u t H1 locs1 ht _ _ hB _ _ hS1 => by rw [ht] at hB; exact kk ls H1 locs1 hl hB hS1)
theorem WP.iret {v r : Int32} {F' : FF} {L' : Int64} (hC : Cx x cc nL own ret rm wd d) (hret : ret = some .int) (hdg : decode cc pc = .ok (.ireturn, 1)) (hr : v = r) (hF : F = F') (hL : L = L') : WP x nL wd d (QI x wd d r F' L') pc lv [(.int v)] F L := by
  obtain ⟨p, l, e, R, s, m, args, below, meth, c⟩ := x
  intro ls H locs hl hP hS
  subst hr; subst hF; subst hL; subst hret
  exact W.iret hC.1 hC.2.1 hC.2.2.2.2.2.2.2.2.1 (fun t ht hW => ⟨⟨v, (), rfl, rfl, by show va_P _ _ _ t.heap; rw [ht]; exact hP⟩, hS.F ht⟩) hS.2.2 hdg (hlocks := hC.2.2.2.2.2.2.2.2.2.1)
theorem WP.lret {v r : Int64} {F' : FF} {L' : Int64} (hC : Cx x cc nL own ret rm wd d) (hret : ret = some .long) (hdg : decode cc pc = .ok (.lreturn, 1)) (hr : v = r) (hF : F = F') (hL : L = L') : WP x nL wd d (QL x wd d r F' L') pc lv [(.long v)] F L := by
  obtain ⟨p, l, e, R, s, m, args, below, meth, c⟩ := x
  intro ls H locs hl hP hS
  subst hr; subst hF; subst hL; subst hret
  exact W.lret hC.1 hC.2.1 hC.2.2.2.2.2.2.2.2.1 (fun t ht hW => ⟨⟨v, (), rfl, rfl, by show va_P _ _ _ t.heap; rw [ht]; exact hP⟩, hS.F ht⟩) hS.2.2 hdg (hlocks := hC.2.2.2.2.2.2.2.2.2.1)
theorem WP.zret {v r : Int32} {F' : FF} {L' : Int64} (hC : Cx x cc nL own ret rm wd d) (hret : ret = some .boolean) (hz : v = 0 ∨ v = 1) (hdg : decode cc pc = .ok (.ireturn, 1)) (hr : v = r) (hF : F = F') (hL : L = L') : WP x nL wd d (QI x wd d r F' L') pc lv [.int v] F L := by
  obtain ⟨p, l, e, R, s, m, args, below, meth, c⟩ := x
  intro ls H locs hl hP hS
  subst hr; subst hF; subst hL; subst hret
  exact W.zret hC.1 hC.2.1 hC.2.2.2.2.2.2.2.2.1 (nar_z hz).2.1 (fun t ht hW => ⟨⟨v, (), rfl, rfl, by show va_P _ _ _ t.heap; rw [ht]; exact hP⟩, hS.F ht⟩) hS.2.2 hdg (hlocks := hC.2.2.2.2.2.2.2.2.2.1)
theorem WP.vret {F' : FF} {L' : Int64} (hC : Cx x cc nL own ret rm wd d) (hret : ret = none) (hdg : decode cc pc = .ok (.return_, 1)) (hF : F = F') (hL : L = L') : WP x nL wd d (QV x wd d F' L') pc lv [] F L := by
  obtain ⟨p, l, e, R, s, m, args, below, meth, c⟩ := x
  intro ls H locs hl hP hS
  subst hF; subst hL; subst hret
  exact W.vret hC.1 hC.2.1 hC.2.2.2.2.2.2.2.2.1 (fun t ht hW => ⟨⟨(), rfl, trivial, by show va_P _ _ _ t.heap; rw [ht]; exact hP⟩, hS.F ht⟩) hS.2.2 hdg (hlocks := hC.2.2.2.2.2.2.2.2.2.1)
end ROWS
def lvE : List Value → List (Option Value)
  | [] => []
  | .long v :: t => some (.long v) :: none :: lvE t
  | .double v :: t => some (.double v) :: none :: lvE t
  | .int v :: t => some (.int v) :: lvE t
  | .float v :: t => some (.float v) :: lvE t
  | .ref v :: t => some (.ref v) :: lvE t
  | .null :: t => some .null :: lvE t
  | .retAddr v :: t => some (.retAddr v) :: lvE t
theorem lvE_args (ad : Nat → Nat) : ∀ (av : List Value) (i : Nat), lvA ad i (lvE av) = lv_args i (av.map (tv ad))
  | [], i => rfl
  | v :: t, i => by
    have h1 := lvE_args ad t (i + 1)
    have h2 := lvE_args ad t (i + 2)
    cases v <;> simp [lvE, lvA, lv_args, tv, Value.category, h1, h2]
theorem lvA_pad (ad : Nat → Nat) (k : Nat) : ∀ (l : List (Option Value)) (i : Nat), lvA ad i (l ++ List.replicate k none) = lvA ad i l
  | [], i => by
    induction k generalizing i with
    | zero => rfl
    | succ k ih => simpa [List.replicate_succ, lvA] using ih (i + 1)
  | none :: t, i => by simpa [lvA] using lvA_pad ad k t (i + 1)
  | some v :: t, i => by simpa [lvA] using lvA_pad ad k t (i + 1)
section MK
variable {l : Launch} {y : MethodName} {b : ByteArray} {nL : Nat} {ret : Option FieldType} {f k : Nat} {wd : WD} {av : List Value} {F : FF} {L : Int64} {F' : FF} {L' : Int64}
theorem lg_len (ad : Nat → Nat) (av : List Value) : (lg_sl (av.map (tv ad))).length = (lvE av).length := by
  induction av with
  | nil => rfl
  | cons v t ih => cases v <;> simp_all [lg_sl, lvE, tv, Value.category]

theorem mkI {r : Int32} (lv : List (Option Value)) (n : Nat) (hp : plainName y.cls = true) (hlv : lv = lvE av ++ List.replicate n none) (hlen : (lvE av).length ≤ nL) (h : ∀ (x : MC) (d : DC), x.2.1 = l → Cx x b nL y.cls ret (rmx f k) wd d → WP x nL wd d (QI x wd d r F' L') 0 lv [] F L) : CI l y b nL ret (rmx f k) wd av F L r F' L' := by
  intro d sz
  refine Met.ofW (cc := b) (maxL := nL) (ret := ret) hp rfl ?_
  intro p e s m args below meth c s₁ B hml hv
  obtain ⟨rfl, hsz, hP, hK, hD, hSt⟩ := hv
  subst hsz
  have hts := atoms_spec (ws := .code y b nL ret :: gw) B.pre
  have hl := lv_entry (av.map (tv d.2.1)) (n := nL) (by rw [lg_len]; exact hlen)
  rw [lg_entry_eq]
  refine h (p, l, e, rmx f k, s, m, _, below, meth, c) d rfl ⟨B.exec, B.bytes, hml, findClass_of_methodNamed B.named, fun w hw => hts w (List.mem_cons_of_mem _ hw), hK, hD, hSt, B.returns, B.notSynchronized, rfl⟩ _ s.heap [] ?_ hP va_S.rf
  rw [← lvE_args d.2.1 av 0, ← lvA_pad d.2.1 n, ← hlv] at hl
  exact hl
theorem mkL {r : Int64} (lv : List (Option Value)) (n : Nat) (hp : plainName y.cls = true) (hlv : lv = lvE av ++ List.replicate n none) (hlen : (lvE av).length ≤ nL) (h : ∀ (x : MC) (d : DC), x.2.1 = l → Cx x b nL y.cls ret (rmx f k) wd d → WP x nL wd d (QL x wd d r F' L') 0 lv [] F L) : CL l y b nL ret (rmx f k) wd av F L r F' L' := by
  intro d sz
  refine Met.ofW (cc := b) (maxL := nL) (ret := ret) hp rfl ?_
  intro p e s m args below meth c s₁ B hml hv
  obtain ⟨rfl, hsz, hP, hK, hD, hSt⟩ := hv
  subst hsz
  have hts := atoms_spec (ws := .code y b nL ret :: gw) B.pre
  have hl := lv_entry (av.map (tv d.2.1)) (n := nL) (by rw [lg_len]; exact hlen)
  rw [lg_entry_eq]
  refine h (p, l, e, rmx f k, s, m, _, below, meth, c) d rfl ⟨B.exec, B.bytes, hml, findClass_of_methodNamed B.named, fun w hw => hts w (List.mem_cons_of_mem _ hw), hK, hD, hSt, B.returns, B.notSynchronized, rfl⟩ _ s.heap [] ?_ hP va_S.rf
  rw [← lvE_args d.2.1 av 0, ← lvA_pad d.2.1 n, ← hlv] at hl
  exact hl
theorem mkV (lv : List (Option Value)) (n : Nat) (hp : plainName y.cls = true) (hlv : lv = lvE av ++ List.replicate n none) (hlen : (lvE av).length ≤ nL) (h : ∀ (x : MC) (d : DC), x.2.1 = l → Cx x b nL y.cls ret (rmx f k) wd d → WP x nL wd d (QV x wd d F' L') 0 lv [] F L) : CV l y b nL ret (rmx f k) wd av F L F' L' := by
  intro d sz
  refine Met.ofW (cc := b) (maxL := nL) (ret := ret) hp rfl ?_
  intro p e s m args below meth c s₁ B hml hv
  obtain ⟨rfl, hsz, hP, hK, hD, hSt⟩ := hv
  subst hsz
  have hts := atoms_spec (ws := .code y b nL ret :: gw) B.pre
  have hl := lv_entry (av.map (tv d.2.1)) (n := nL) (by rw [lg_len]; exact hlen)
  rw [lg_entry_eq]
  refine h (p, l, e, rmx f k, s, m, _, below, meth, c) d rfl ⟨B.exec, B.bytes, hml, findClass_of_methodNamed B.named, fun w hw => hts w (List.mem_cons_of_mem _ hw), hK, hD, hSt, B.returns, B.notSynchronized, rfl⟩ _ s.heap [] ?_ hP va_S.rf
  rw [← lvE_args d.2.1 av 0, ← lvA_pad d.2.1 n, ← hlv] at hl
  exact hl
end MK
