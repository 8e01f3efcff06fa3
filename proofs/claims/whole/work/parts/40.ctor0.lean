theorem oi_X0 : Cond.methodLink RX0 3 objectInit ∈ gw := gw_mem (List.mem_of_getElem? (i := 135) (by decide +kernel)) rfl
theorem ins_X0 : Cond.instantiable RX0 3 ∈ gw := gw_mem (List.mem_of_getElem? (i := 131) (by decide +kernel)) rfl
theorem ini_X0 : Cond.initialized RX0 ∈ gw := gw_mem (List.mem_of_getElem? (i := 43) (by decide +kernel)) rfl
theorem im_X0 : Cond.instanceMethod yX0_init ∈ gw := gw_mem (List.mem_of_getElem? (i := 133) (by decide +kernel)) rfl
theorem oi_X1 : Cond.methodLink RX1 3 objectInit ∈ gw := gw_mem (List.mem_of_getElem? (i := 109) (by decide +kernel)) rfl
theorem ins_X1 : Cond.instantiable RX1 5 ∈ gw := gw_mem (List.mem_of_getElem? (i := 105) (by decide +kernel)) rfl
theorem ini_X1 : Cond.initialized RX1 ∈ gw := gw_mem (List.mem_of_getElem? (i := 42) (by decide +kernel)) rfl
theorem im_X1 : Cond.instanceMethod yX1_init ∈ gw := gw_mem (List.mem_of_getElem? (i := 107) (by decide +kernel)) rfl
theorem oi_X2 : Cond.methodLink RX2 3 objectInit ∈ gw := gw_mem (List.mem_of_getElem? (i := 155) (by decide +kernel)) rfl
theorem ins_X2 : Cond.instantiable RX2 5 ∈ gw := gw_mem (List.mem_of_getElem? (i := 151) (by decide +kernel)) rfl
theorem ini_X2 : Cond.initialized RX2 ∈ gw := gw_mem (List.mem_of_getElem? (i := 44) (by decide +kernel)) rfl
theorem im_X2 : Cond.instanceMethod yX2_init ∈ gw := gw_mem (List.mem_of_getElem? (i := 153) (by decide +kernel)) rfl
theorem oi_X3 : Cond.methodLink RX3 3 objectInit ∈ gw := gw_mem (List.mem_of_getElem? (i := 77) (by decide +kernel)) rfl
theorem ins_X3 : Cond.instantiable RX3 6 ∈ gw := gw_mem (List.mem_of_getElem? (i := 73) (by decide +kernel)) rfl
theorem ini_X3 : Cond.initialized RX3 ∈ gw := gw_mem (List.mem_of_getElem? (i := 41) (by decide +kernel)) rfl
theorem im_X3 : Cond.instanceMethod yX3_init ∈ gw := gw_mem (List.mem_of_getElem? (i := 75) (by decide +kernel)) rfl
theorem oi_X4 : Cond.methodLink RX4 3 objectInit ∈ gw := gw_mem (List.mem_of_getElem? (i := 61) (by decide +kernel)) rfl
theorem ins_X4 : Cond.instantiable RX4 2 ∈ gw := gw_mem (List.mem_of_getElem? (i := 57) (by decide +kernel)) rfl
theorem ini_X4 : Cond.initialized RX4 ∈ gw := gw_mem (List.mem_of_getElem? (i := 40) (by decide +kernel)) rfl
theorem im_X4 : Cond.instanceMethod yX4_init ∈ gw := gw_mem (List.mem_of_getElem? (i := 59) (by decide +kernel)) rfl
theorem oi_X5 : Cond.methodLink RX5 1 objectInit ∈ gw := gw_mem (List.mem_of_getElem? (i := 53) (by decide +kernel)) rfl
theorem ins_X5 : Cond.instantiable RX5 11 ∈ gw := gw_mem (List.mem_of_getElem? (i := 49) (by decide +kernel)) rfl
theorem ini_X5 : Cond.initialized RX5 ∈ gw := gw_mem (List.mem_of_getElem? (i := 39) (by decide +kernel)) rfl
theorem im_X5 : Cond.instanceMethod yX5_init ∈ gw := gw_mem (List.mem_of_getElem? (i := 51) (by decide +kernel)) rfl
theorem oi_X6 : Cond.methodLink RX6 1 objectInit ∈ gw := gw_mem (List.mem_of_getElem? (i := 579) (by decide +kernel)) rfl
theorem ins_X6 : Cond.instantiable RX6 26 ∈ gw := gw_mem (List.mem_of_getElem? (i := 575) (by decide +kernel)) rfl
theorem ini_X6 : Cond.initialized RX6 ∈ gw := gw_mem (List.mem_of_getElem? (i := 45) (by decide +kernel)) rfl
theorem im_X6 : Cond.instanceMethod yX6_init ∈ gw := gw_mem (List.mem_of_getElem? (i := 577) (by decide +kernel)) rfl
theorem oi_im : Cond.instanceMethod objectInit ∈ gw := gw_mem (List.mem_of_getElem? (i := 54) (by decide +kernel)) rfl
set_option maxRecDepth 20000 in
theorem oi_cd : Cond.code objectInit ⟨#[0xb1]⟩ 1 none ∈ gw := gw_mem (List.mem_of_getElem? (i := 55) rfl) rfl
theorem ac_i : Cond.arrayClass .int ∈ gw := gw_mem (List.mem_of_getElem? (i := 71) (by decide +kernel)) rfl
theorem ac_z : Cond.arrayClass .boolean ∈ gw := gw_mem (List.mem_of_getElem? (i := 173) (by decide +kernel)) rfl
theorem kl_X5_7 : Cond.classLink RX5 7 RX4 ∈ gw := gw_mem (List.mem_of_getElem? (i := 56) (by decide +kernel)) rfl
theorem kl_X5_16 : Cond.classLink RX5 16 RX3 ∈ gw := gw_mem (List.mem_of_getElem? (i := 72) (by decide +kernel)) rfl
theorem kl_X5_23 : Cond.classLink RX5 23 RX1 ∈ gw := gw_mem (List.mem_of_getElem? (i := 104) (by decide +kernel)) rfl
theorem kl_X5_30 : Cond.classLink RX5 30 RX0 ∈ gw := gw_mem (List.mem_of_getElem? (i := 130) (by decide +kernel)) rfl
theorem kl_X5_37 : Cond.classLink RX5 37 RX2 ∈ gw := gw_mem (List.mem_of_getElem? (i := 150) (by decide +kernel)) rfl
theorem kl_X0_9 : Cond.classLink RX0 9 RX1 ∈ gw := gw_mem (List.mem_of_getElem? (i := 136) (by decide +kernel)) rfl
theorem kl_L_7 : Cond.classLink RL 7 RX5 ∈ gw := gw_mem (List.mem_of_getElem? (i := 48) (by decide +kernel)) rfl
theorem kl_L_10 : Cond.classLink RL 10 RX6 ∈ gw := gw_mem (List.mem_of_getElem? (i := 574) (by decide +kernel)) rfl
theorem fk_X4_9 : Cond.fieldLink RX4 9 (TX4 0).1 (TX4 0).2.1 (TX4 0).2.2.1 ∈ gw := gw_mem (List.mem_of_getElem? (i := 62) (by decide +kernel)) rfl
theorem fk_X3_9 : Cond.fieldLink RX3 9 (TX3 0).1 (TX3 0).2.1 (TX3 0).2.2.1 ∈ gw := gw_mem (List.mem_of_getElem? (i := 78) (by decide +kernel)) rfl
theorem fk_X3_15 : Cond.fieldLink RX3 15 (TX3 1).1 (TX3 1).2.1 (TX3 1).2.2.1 ∈ gw := gw_mem (List.mem_of_getElem? (i := 80) (by decide +kernel)) rfl
theorem fk_X3_18 : Cond.fieldLink RX3 18 (TX3 2).1 (TX3 2).2.1 (TX3 2).2.2.1 ∈ gw := gw_mem (List.mem_of_getElem? (i := 82) (by decide +kernel)) rfl
theorem fk_X3_21 : Cond.fieldLink RX3 21 (TX3 3).1 (TX3 3).2.1 (TX3 3).2.2.1 ∈ gw := gw_mem (List.mem_of_getElem? (i := 84) (by decide +kernel)) rfl
theorem fk_X0_11 : Cond.fieldLink RX0 11 (TX0 0).1 (TX0 0).2.1 (TX0 0).2.2.1 ∈ gw := gw_mem (List.mem_of_getElem? (i := 139) (by decide +kernel)) rfl
theorem fk_X2_9 : Cond.fieldLink RX2 9 (TX2 0).1 (TX2 0).2.1 (TX2 0).2.2.1 ∈ gw := gw_mem (List.mem_of_getElem? (i := 156) (by decide +kernel)) rfl
theorem fk_X2_15 : Cond.fieldLink RX2 15 (TX2 1).1 (TX2 1).2.1 (TX2 1).2.2.1 ∈ gw := gw_mem (List.mem_of_getElem? (i := 157) (by decide +kernel)) rfl
theorem fk_X2_18 : Cond.fieldLink RX2 18 (TX2 2).1 (TX2 2).2.1 (TX2 2).2.2.1 ∈ gw := gw_mem (List.mem_of_getElem? (i := 158) (by decide +kernel)) rfl
theorem fk_X2_22 : Cond.fieldLink RX2 22 (TX2 3).1 (TX2 3).2.1 (TX2 3).2.2.1 ∈ gw := gw_mem (List.mem_of_getElem? (i := 159) (by decide +kernel)) rfl
theorem fk_X5_10 : Cond.fieldLink RX5 10 (TX5 0).1 (TX5 0).2.1 (TX5 0).2.2.1 ∈ gw := gw_mem (List.mem_of_getElem? (i := 174) (by decide +kernel)) rfl
theorem fk_X5_19 : Cond.fieldLink RX5 19 (TX5 1).1 (TX5 1).2.1 (TX5 1).2.2.1 ∈ gw := gw_mem (List.mem_of_getElem? (i := 175) (by decide +kernel)) rfl
theorem fk_X5_26 : Cond.fieldLink RX5 26 (TX5 2).1 (TX5 2).2.1 (TX5 2).2.2.1 ∈ gw := gw_mem (List.mem_of_getElem? (i := 176) (by decide +kernel)) rfl
theorem fk_X5_33 : Cond.fieldLink RX5 33 (TX5 3).1 (TX5 3).2.1 (TX5 3).2.2.1 ∈ gw := gw_mem (List.mem_of_getElem? (i := 177) (by decide +kernel)) rfl
theorem fk_X5_40 : Cond.fieldLink RX5 40 (TX5 4).1 (TX5 4).2.1 (TX5 4).2.2.1 ∈ gw := gw_mem (List.mem_of_getElem? (i := 178) (by decide +kernel)) rfl
theorem fk_X5_44 : Cond.fieldLink RX5 44 (TX5 5).1 (TX5 5).2.1 (TX5 5).2.2.1 ∈ gw := gw_mem (List.mem_of_getElem? (i := 179) (by decide +kernel)) rfl
theorem fk_X5_48 : Cond.fieldLink RX5 48 (TX5 6).1 (TX5 6).2.1 (TX5 6).2.2.1 ∈ gw := gw_mem (List.mem_of_getElem? (i := 180) (by decide +kernel)) rfl
theorem fk_X5_52 : Cond.fieldLink RX5 52 (TX5 8).1 (TX5 8).2.1 (TX5 8).2.2.1 ∈ gw := gw_mem (List.mem_of_getElem? (i := 182) (by decide +kernel)) rfl
theorem fk_X5_55 : Cond.fieldLink RX5 55 (TX5 9).1 (TX5 9).2.1 (TX5 9).2.2.1 ∈ gw := gw_mem (List.mem_of_getElem? (i := 183) (by decide +kernel)) rfl
theorem fk_X5_59 : Cond.fieldLink RX5 59 (TX5 10).1 (TX5 10).2.1 (TX5 10).2.2.1 ∈ gw := gw_mem (List.mem_of_getElem? (i := 184) (by decide +kernel)) rfl
theorem fk_X6_7 : Cond.fieldLink RX6 7 (TX6 2).1 (TX6 2).2.1 (TX6 2).2.2.1 ∈ gw := gw_mem (List.mem_of_getElem? (i := 582) (by decide +kernel)) rfl
theorem fk_X6_13 : Cond.fieldLink RX6 13 (TX6 3).1 (TX6 3).2.1 (TX6 3).2.2.1 ∈ gw := gw_mem (List.mem_of_getElem? (i := 583) (by decide +kernel)) rfl
theorem fk_X6_16 : Cond.fieldLink RX6 16 (TX6 4).1 (TX6 4).2.1 (TX6 4).2.2.1 ∈ gw := gw_mem (List.mem_of_getElem? (i := 584) (by decide +kernel)) rfl
theorem fk_X6_19 : Cond.fieldLink RX6 19 (TX6 5).1 (TX6 5).2.1 (TX6 5).2.2.1 ∈ gw := gw_mem (List.mem_of_getElem? (i := 585) (by decide +kernel)) rfl
theorem fk_X6_22 : Cond.fieldLink RX6 22 (TX6 6).1 (TX6 6).2.1 (TX6 6).2.2.1 ∈ gw := gw_mem (List.mem_of_getElem? (i := 586) (by decide +kernel)) rfl
theorem fk_X6_25 : Cond.fieldLink RX6 25 (TX6 7).1 (TX6 7).2.1 (TX6 7).2.2.1 ∈ gw := gw_mem (List.mem_of_getElem? (i := 587) (by decide +kernel)) rfl
theorem fk_X6_28 : Cond.fieldLink RX6 28 (TX6 8).1 (TX6 8).2.1 (TX6 8).2.2.1 ∈ gw := gw_mem (List.mem_of_getElem? (i := 588) (by decide +kernel)) rfl
theorem fk_X6_31 : Cond.fieldLink RX6 31 (TX6 11).1 (TX6 11).2.1 (TX6 11).2.2.1 ∈ gw := gw_mem (List.mem_of_getElem? (i := 591) (by decide +kernel)) rfl
theorem fk_X6_34 : Cond.fieldLink RX6 34 (TX6 17).1 (TX6 17).2.1 (TX6 17).2.2.1 ∈ gw := gw_mem (List.mem_of_getElem? (i := 597) (by decide +kernel)) rfl
theorem fk_X6_37 : Cond.fieldLink RX6 37 (TX6 19).1 (TX6 19).2.1 (TX6 19).2.2.1 ∈ gw := gw_mem (List.mem_of_getElem? (i := 599) (by decide +kernel)) rfl
theorem fk_X6_40 : Cond.fieldLink RX6 40 (TX6 20).1 (TX6 20).2.1 (TX6 20).2.2.1 ∈ gw := gw_mem (List.mem_of_getElem? (i := 600) (by decide +kernel)) rfl
theorem fk_X6_43 : Cond.fieldLink RX6 43 (TX6 21).1 (TX6 21).2.1 (TX6 21).2.2.1 ∈ gw := gw_mem (List.mem_of_getElem? (i := 601) (by decide +kernel)) rfl
theorem fk_X6_46 : Cond.fieldLink RX6 46 (TX6 22).1 (TX6 22).2.1 (TX6 22).2.2.1 ∈ gw := gw_mem (List.mem_of_getElem? (i := 602) (by decide +kernel)) rfl
theorem fk_X6_49 : Cond.fieldLink RX6 49 (TX6 24).1 (TX6 24).2.1 (TX6 24).2.2.1 ∈ gw := gw_mem (List.mem_of_getElem? (i := 604) (by decide +kernel)) rfl
theorem fk_X6_53 : Cond.fieldLink RX6 53 (TX6 25).1 (TX6 25).2.1 (TX6 25).2.2.1 ∈ gw := gw_mem (List.mem_of_getElem? (i := 605) (by decide +kernel)) rfl
/-- what the tables say that doesn't go through a call by itself: nest mates, the array of benches -/
def XN (U : State) : Prop := va_AO RX1 U ∧ va_Nw (.methodLinkNest RX5 9 yX4_init RX5) U ∧ va_Nw (.methodLinkNest RX5 18 yX3_init RX5) U ∧ va_Nw (.methodLinkNest RX5 25 yX1_init RX5) U ∧ va_Nw (.methodLinkNest RX0 17 yX1_init RX5) U ∧ va_Nw (.methodLinkNest RX5 39 yX2_init RX5) U
theorem XN.blind {U : State} {g : JFrame} {mk : MethodId} {a : Array Value} (h : XN U) : XN (U.calling g mk a) := by
  obtain ⟨h0, h1, h2, h3, h4, h5⟩ := h
  exact ⟨va_AO.moved (u := U) (U := U.calling g mk a) (Vm.Alike.refl U.vm) h0, va_Nw.same rfl (rfl : U.vm = (U.calling g mk a).vm) h1, va_Nw.same rfl (rfl : U.vm = (U.calling g mk a).vm) h2, va_Nw.same rfl (rfl : U.vm = (U.calling g mk a).vm) h3, va_Nw.same rfl (rfl : U.vm = (U.calling g mk a).vm) h4, va_Nw.same rfl (rfl : U.vm = (U.calling g mk a).vm) h5⟩
theorem XN.warm {s U : State} (hW : s.WarmedH U.vm) (h : XN s) : XN U := by
  obtain ⟨h0, h1, h2, h3, h4, h5⟩ := h
  exact ⟨va_AO.moved hW.alike h0, va_Nw.warmM hW h1, va_Nw.warmM hW h2, va_Nw.warmM hW h3, va_Nw.warmM hW h4, va_Nw.warmM hW h5⟩
theorem XN.of {s : State} {args : Array Value} (hts : ∀ w ∈ lw_tbl, w.before args s = true) : XN s := ⟨va_AO.of (hts _ (List.mem_of_getElem? (i := 137) (by decide +kernel))), va_Nw.of rfl (hts _ (List.mem_of_getElem? (i := 58) (by decide +kernel))), va_Nw.of rfl (hts _ (List.mem_of_getElem? (i := 74) (by decide +kernel))), va_Nw.of rfl (hts _ (List.mem_of_getElem? (i := 106) (by decide +kernel))), va_Nw.of rfl (hts _ (List.mem_of_getElem? (i := 138) (by decide +kernel))), va_Nw.of rfl (hts _ (List.mem_of_getElem? (i := 152) (by decide +kernel)))⟩
def CPre (D : va_G) (tys : List (ClassId × FieldType)) (W0 : va_W) (h0 sz : Nat) : Array Value → State → Prop := va_Pc [.ref h0] (fun U => U.heap.size = sz ∧ va_P D classes W0 U.heap ∧ va_K D classes tys U ∧ va_D (fun _ => True) W0 ∧ XN U)
def CPost (D : va_G) (W1 : (Nat → Nat) → va_W) (A : Nat → Prop) : Array Value → State → Outcome → State → Prop := va_Qv (fun (_ : Nat → Nat) => True) (fun ad t => va_P D classes (W1 ad) t.heap ∧ va_D A (W1 ad)) A
def CC (l : Launch) (y : MethodName) (b : ByteArray) (nL : Nat) (rm : Room) (D : va_G) (tys : List (ClassId × FieldType)) (W0 : va_W) (W1 : (Nat → Nat) → va_W) (h0 mc ms : Nat) : Prop := ∀ sz : Nat, Met l y (.code y b nL none :: gw) rm (CPre D tys W0 h0 sz) (CPost D W1 (va_A W0 sz)) mc ms (va_A W0 sz)
theorem CPre_blind {D : va_G} {tys : List (ClassId × FieldType)} {W0 : va_W} {h0 sz : Nat} : FrameBlind (CPre D tys W0 h0 sz) := by
  intro a U g mk ⟨q0, q1, qP, qK, qD, qX⟩
  exact ⟨q0, q1, qP, va_K.moved (u := U) (U := U.calling g mk a) (Vm.Alike.refl U.vm) qK, qD, qX.blind⟩
section CT
variable {p : Program} {l : Launch} {e : Env} {R : Room} {s : State} {m : MethodId} {args : Array Value} {below : List Frame} {meth : Method} {c : Code} {H : Heap} {locs : List Loc} {cells slots : Nat} {Q : State → Prop}
/-- a call of a nest mate's constructor -/
theorem ctCall {cc : ByteArray} {nL pc : Nat} {ls : Array Slot} {rest : List Value} {own host : String} {ix h mc ms nL' : Nat} {y : MethodName} {b : ByteArray} {rm : Room} {D : va_G} {tys : List (ClassId × FieldType)} {ws W0 wr : va_W} {W1 : (Nat → Nat) → va_W} {A : Nat → Prop}
    (hx : p.tables.exec = Jvm.exec) (hb : c.code = cc) (hml : c.maxLocals = nL) (hown : s.vm.findClass own = some m.cls) (hts : ∀ w ∈ gw, w.before args s = true) (hK : va_K D classes tys s) (hX : XN s) (hP : va_P D classes ws H) (hD : va_D A ws) (hS : va_S A s.heap H locs) (hA : ∀ q, s.heap.size ≤ q → A q)
    (hM : CC l y b nL' rm D tys W0 W1 h mc ms) (hN : va_Nw (.methodLinkNest own ix y host) s) (w3 : Cond.initialized y.cls ∈ gw) (w4 : Cond.code y b nL' none ∈ gw) (wi : Cond.instanceMethod y ∈ gw) (hy : y.name = "<init>") (hd : y.cls ≠ "java/lang/invoke/MethodHandle" ∧ y.cls ≠ "java/lang/invoke/VarHandle" ∧ (parseMethodDescriptor y.desc).map (fun d => d.parameters.length) = some 0)
    (isC isR : List Nat) (hC : isC.map (fun i => ws[i]?) = W0.map some) (hR : isR.map (fun i => ws[i]?) = wr.map some) (hn : va_nd isR = true) (hdis : ∀ i ∈ isR, i ∉ isC) (hnd : va_nd isC = true) (hsz : ls.size = nL) (hcat : (rest.map fun v => v.category).sum ≤ 8) (hrc : rm.cells = mc) (hrs : rm.slots = ms) (hRm : rm.frames + 1 ≤ R.frames ∧ 8 + (nL' + 11) + rm.locals ≤ R.locals) (hf : cells + mc ≤ R.cells ∧ slots + ms ≤ R.slots) (hdg : decode cc pc = .ok (.invokespecial ix, 3))
    (kk : ∀ (ad : Nat → Nat) (H1 : Heap) (locs1 : List Loc), va_P D classes (wr ++ W1 ad) H1 → va_D A (wr ++ W1 ad) → va_S A s.heap H1 locs1 → W p l e R s m args below meth c H1 locs1 (cells + mc) (slots + ms) Q (F0 m (pc + 3) ls rest)) : W p l e R s m args below meth c H locs cells slots Q (F0 m pc ls (.ref h :: rest)) := by
  have hpick : ∀ is : List Nat, ∀ w : va_W, is.map (fun i => ws[i]?) = w.map some → is.filterMap (fun i => ws[i]?) = w := by
    intro is
    induction is with
    | nil => intro w hw; cases w with | nil => rfl | cons a t => simp at hw
    | cons i t ih =>
      intro w hw
      cases w with
      | nil => simp at hw
      | cons a r =>
        simp only [List.map_cons, List.cons.injEq] at hw
        rw [List.filterMap_cons, hw.1, ih r hw.2]
  have hPc : va_P D classes W0 H := hP.sub isC (hpick isC W0 hC)
  have hDc : va_D A W0 := hD.sub isC hnd hC
  have hFc := va_free hD hS hA isC hC
  refine va_callv (va_runIN (As := []) (rest := rest) (Ts := gw) ⟨hx, hb, hml, hown, hts⟩ (hM H.size) ⟨va_cnB 0 hts (lw_goodIn w4) rfl hrc hrs hN (hts _ w3) hd hRm, hy, hts _ wi⟩ ⟨CPre_blind, fun U hU hW => ⟨rfl, by rw [hU], by rw [hU]; exact hPc, va_K.moved hW.alike hK, hDc.weaken (fun _ _ _ _ => trivial), hX.warm hW⟩⟩ rfl rfl hsz rfl (lv_room hcat) hdg hf) hS (fun q _ h => hFc q h) hFc (fun ad t H1 locs1 ht _ _ hB _ hk1 hS1 => ?_)
  obtain ⟨hP1, hD1⟩ := hB
  rw [ht] at hP1
  obtain ⟨hP2, hD2⟩ := va_join hP hD isC isR hC hR hn hdis hk1 hFc hP1 hD1
  exact kk ad H1 locs1 hP2 hD2 hS1
/-- a call of a constructor -/
theorem ctCallP {cc : ByteArray} {nL pc : Nat} {ls : Array Slot} {rest : List Value} {own : String} {ix h mc ms nL' : Nat} {y : MethodName} {b : ByteArray} {rm : Room} {D : va_G} {tys : List (ClassId × FieldType)} {ws W0 wr : va_W} {W1 : (Nat → Nat) → va_W} {A : Nat → Prop}
    (hx : p.tables.exec = Jvm.exec) (hb : c.code = cc) (hml : c.maxLocals = nL) (hown : s.vm.findClass own = some m.cls) (hts : ∀ w ∈ gw, w.before args s = true) (hK : va_K D classes tys s) (hX : XN s) (hP : va_P D classes ws H) (hD : va_D A ws) (hS : va_S A s.heap H locs) (hA : ∀ q, s.heap.size ≤ q → A q)
    (hM : CC l y b nL' rm D tys W0 W1 h mc ms) (hN : Cond.methodLink own ix y ∈ gw) (w3 : Cond.initialized y.cls ∈ gw) (w4 : Cond.code y b nL' none ∈ gw) (wi : Cond.instanceMethod y ∈ gw) (hy : y.name = "<init>") (hd : y.cls ≠ "java/lang/invoke/MethodHandle" ∧ y.cls ≠ "java/lang/invoke/VarHandle" ∧ (parseMethodDescriptor y.desc).map (fun d => d.parameters.length) = some 0)
    (isC isR : List Nat) (hC : isC.map (fun i => ws[i]?) = W0.map some) (hR : isR.map (fun i => ws[i]?) = wr.map some) (hn : va_nd isR = true) (hdis : ∀ i ∈ isR, i ∉ isC) (hnd : va_nd isC = true) (hsz : ls.size = nL) (hcat : (rest.map fun v => v.category).sum ≤ 8) (hrc : rm.cells = mc) (hrs : rm.slots = ms) (hRm : rm.frames + 1 ≤ R.frames ∧ 8 + (nL' + 11) + rm.locals ≤ R.locals) (hf : cells + mc ≤ R.cells ∧ slots + ms ≤ R.slots) (hdg : decode cc pc = .ok (.invokespecial ix, 3))
    (kk : ∀ (ad : Nat → Nat) (H1 : Heap) (locs1 : List Loc), va_P D classes (wr ++ W1 ad) H1 → va_D A (wr ++ W1 ad) → va_S A s.heap H1 locs1 → W p l e R s m args below meth c H1 locs1 (cells + mc) (slots + ms) Q (F0 m (pc + 3) ls rest)) : W p l e R s m args below meth c H locs cells slots Q (F0 m pc ls (.ref h :: rest)) := by
  have hpick : ∀ is : List Nat, ∀ w : va_W, is.map (fun i => ws[i]?) = w.map some → is.filterMap (fun i => ws[i]?) = w := by
    intro is
    induction is with
    | nil => intro w hw; cases w with | nil => rfl | cons a t => simp at hw
    | cons i t ih =>
      intro w hw
      cases w with
      | nil => simp at hw
      | cons a r =>
        simp only [List.map_cons, List.cons.injEq] at hw
        rw [List.filterMap_cons, hw.1, ih r hw.2]
  have hPc : va_P D classes W0 H := hP.sub isC (hpick isC W0 hC)
  have hDc : va_D A W0 := hD.sub isC hnd hC
  have hFc := va_free hD hS hA isC hC
  refine va_callv (va_runI (As := []) (rest := rest) (Ts := gw) ⟨hx, hb, hml, hown, hts⟩ (hM H.size) ⟨callB_of 0 hts (lw_goodIn w4) rfl hrc hrs (hts _ w3) (hts _ hN) hd hRm, hy, hts _ wi⟩ ⟨CPre_blind, fun U hU hW => ⟨rfl, by rw [hU], by rw [hU]; exact hPc, va_K.moved hW.alike hK, hDc.weaken (fun _ _ _ _ => trivial), hX.warm hW⟩⟩ rfl rfl hsz rfl (lv_room hcat) hdg hf) hS (fun q _ h => hFc q h) hFc (fun ad t H1 locs1 ht _ _ hB _ hk1 hS1 => ?_)
  obtain ⟨hP1, hD1⟩ := hB
  rw [ht] at hP1
  obtain ⟨hP2, hD2⟩ := va_join hP hD isC isR hC hR hn hdis hk1 hFc hP1 hD1
  exact kk ad H1 locs1 hP2 hD2 hS1
end CT
theorem cA_i {D : va_G} {tys : List (ClassId × FieldType)} {U : State} {cA cI : ClassId} {j : Nat} (h : va_K D classes tys U) (hj : tys[j]? = some (cI, .int)) (h2 : va_K D classes (tys ++ [(cA, .int)]) U) : cA = cI := by
  have a := (h.2 j _ hj).2
  have b := (h2.2 tys.length (cA, .int) (by simp)).2
  exact Option.some.inj (Eq.trans (Eq.symm b) a)
theorem cA_z {D : va_G} {tys : List (ClassId × FieldType)} {U : State} {cA cI : ClassId} {j : Nat} (h : va_K D classes tys U) (hj : tys[j]? = some (cI, .boolean)) (h2 : va_K D classes (tys ++ [(cA, .boolean)]) U) : cA = cI := by
  have a := (h.2 j _ hj).2
  have b := (h2.2 tys.length (cA, .boolean) (by simp)).2
  exact Option.some.inj (Eq.trans (Eq.symm b) a)
theorem cA_o {D : va_G} {tys : List (ClassId × FieldType)} {U : State} {C : String} {cA cI : ClassId} {j : Nat} (h : va_K D classes tys U) (hj : tys[j]? = some (cI, .object C)) (h2 : va_K D classes (tys ++ [(cA, .object C)]) U) : cA = cI := by
  obtain ⟨_, _, _, _, _, a⟩ := (h.2 j _ hj).2
  obtain ⟨_, _, _, _, _, b⟩ := (h2.2 tys.length (cA, .object C) (by simp)).2
  exact Option.some.inj (Eq.trans (Eq.symm b) a)

