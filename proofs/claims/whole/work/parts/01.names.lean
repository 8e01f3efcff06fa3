-- ===== PART A: goes FIRST, ahead of the names: the tables' words, and 'selects' of the private methods out of them =====
/-- a private method of a class that the tables say can be made, by its rows of tables_1 -/
def lw_okq (q : MethodName × Nat) : Prop := (q.1.cls ≠ "java/lang/invoke/MethodHandle" ∧ q.1.cls ≠ "java/lang/invoke/VarHandle") ∧ Cond.instantiable q.1.cls q.2 ∈ tables_1 ∧ Cond.privateMethod q.1 ∈ tables_1 ∧ Cond.instanceMethod q.1 ∈ tables_1
theorem lw_p0 : lw_okq (⟨"NewRays$Text", "readerFault", "(I)I"⟩, 2) := ⟨⟨by decide +kernel, by decide +kernel⟩, List.mem_of_getElem? (i := 19) (by decide +kernel), List.mem_of_getElem? (i := 195) (by decide +kernel), List.mem_of_getElem? (i := 196) (by decide +kernel)⟩
theorem lw_p1 : lw_okq (⟨"NewRays$Text", "figureFault", "(III)I"⟩, 2) := ⟨⟨by decide +kernel, by decide +kernel⟩, List.mem_of_getElem? (i := 19) (by decide +kernel), List.mem_of_getElem? (i := 199) (by decide +kernel), List.mem_of_getElem? (i := 200) (by decide +kernel)⟩
theorem lw_p2 : lw_okq (⟨"NewRays$Room", "addReader", "(LNewRays$Text;I)V"⟩, 6) := ⟨⟨by decide +kernel, by decide +kernel⟩, List.mem_of_getElem? (i := 35) (by decide +kernel), List.mem_of_getElem? (i := 212) (by decide +kernel), List.mem_of_getElem? (i := 213) (by decide +kernel)⟩
theorem lw_p3 : lw_okq (⟨"NewRays$Room", "addSample", "(I)V"⟩, 6) := ⟨⟨by decide +kernel, by decide +kernel⟩, List.mem_of_getElem? (i := 35) (by decide +kernel), List.mem_of_getElem? (i := 220) (by decide +kernel), List.mem_of_getElem? (i := 221) (by decide +kernel)⟩
theorem lw_p4 : lw_okq (⟨"NewRays", "sayingYes", "(I)I"⟩, 11) := ⟨⟨by decide +kernel, by decide +kernel⟩, List.mem_of_getElem? (i := 11) (by decide +kernel), List.mem_of_getElem? (i := 252) (by decide +kernel), List.mem_of_getElem? (i := 253) (by decide +kernel)⟩
theorem lw_p5 : lw_okq (⟨"NewRays", "sayingYesIf", "(IZZ)I"⟩, 11) := ⟨⟨by decide +kernel, by decide +kernel⟩, List.mem_of_getElem? (i := 11) (by decide +kernel), List.mem_of_getElem? (i := 256) (by decide +kernel), List.mem_of_getElem? (i := 257) (by decide +kernel)⟩
theorem lw_p6 : lw_okq (⟨"NewRays", "seesAllBright", "(I)Z"⟩, 11) := ⟨⟨by decide +kernel, by decide +kernel⟩, List.mem_of_getElem? (i := 11) (by decide +kernel), List.mem_of_getElem? (i := 385) (by decide +kernel), List.mem_of_getElem? (i := 386) (by decide +kernel)⟩
theorem lw_p7 : lw_okq (⟨"NewRays", "standsOnTrial", "(II)Z"⟩, 11) := ⟨⟨by decide +kernel, by decide +kernel⟩, List.mem_of_getElem? (i := 11) (by decide +kernel), List.mem_of_getElem? (i := 410) (by decide +kernel), List.mem_of_getElem? (i := 411) (by decide +kernel)⟩
theorem lw_p8 : lw_okq (⟨"NewRays", "saidIfGoneFrom", "(IIII)I"⟩, 11) := ⟨⟨by decide +kernel, by decide +kernel⟩, List.mem_of_getElem? (i := 11) (by decide +kernel), List.mem_of_getElem? (i := 441) (by decide +kernel), List.mem_of_getElem? (i := 442) (by decide +kernel)⟩
theorem lw_p9 : lw_okq (⟨"NewRays", "sayingRight", "(I)I"⟩, 11) := ⟨⟨by decide +kernel, by decide +kernel⟩, List.mem_of_getElem? (i := 11) (by decide +kernel), List.mem_of_getElem? (i := 450) (by decide +kernel), List.mem_of_getElem? (i := 451) (by decide +kernel)⟩
theorem lw_p10 : lw_okq (⟨"NewRays", "ordersBehind", "(I)I"⟩, 11) := ⟨⟨by decide +kernel, by decide +kernel⟩, List.mem_of_getElem? (i := 11) (by decide +kernel), List.mem_of_getElem? (i := 454) (by decide +kernel), List.mem_of_getElem? (i := 455) (by decide +kernel)⟩
theorem lw_p11 : lw_okq (⟨"NewRays", "rightByMost", "(I)I"⟩, 11) := ⟨⟨by decide +kernel, by decide +kernel⟩, List.mem_of_getElem? (i := 11) (by decide +kernel), List.mem_of_getElem? (i := 463) (by decide +kernel), List.mem_of_getElem? (i := 464) (by decide +kernel)⟩
theorem lw_p12 : lw_okq (⟨"NewRays", "tenthsOfYes", "(III)I"⟩, 11) := ⟨⟨by decide +kernel, by decide +kernel⟩, List.mem_of_getElem? (i := 11) (by decide +kernel), List.mem_of_getElem? (i := 490) (by decide +kernel), List.mem_of_getElem? (i := 491) (by decide +kernel)⟩
theorem lw_p13 : lw_okq (⟨"NewRays", "addToWays", "(I)V"⟩, 11) := ⟨⟨by decide +kernel, by decide +kernel⟩, List.mem_of_getElem? (i := 11) (by decide +kernel), List.mem_of_getElem? (i := 494) (by decide +kernel), List.mem_of_getElem? (i := 495) (by decide +kernel)⟩
theorem lw_p14 : lw_okq (⟨"NewRays", "winterOnTrial", "(I)V"⟩, 11) := ⟨⟨by decide +kernel, by decide +kernel⟩, List.mem_of_getElem? (i := 11) (by decide +kernel), List.mem_of_getElem? (i := 509) (by decide +kernel), List.mem_of_getElem? (i := 510) (by decide +kernel)⟩
theorem lw_p15 : lw_okq (⟨"NewRaysModel", "readText", "()I"⟩, 26) := ⟨⟨by decide +kernel, by decide +kernel⟩, List.mem_of_getElem? (i := 537) (by decide +kernel), List.mem_of_getElem? (i := 638) (by decide +kernel), List.mem_of_getElem? (i := 639) (by decide +kernel)⟩
def lw_privs_1 : List (MethodName × Nat) := [(⟨"NewRays$Text", "readerFault", "(I)I"⟩, 2), (⟨"NewRays$Text", "figureFault", "(III)I"⟩, 2), (⟨"NewRays$Room", "addReader", "(LNewRays$Text;I)V"⟩, 6), (⟨"NewRays$Room", "addSample", "(I)V"⟩, 6), (⟨"NewRays", "sayingYes", "(I)I"⟩, 11), (⟨"NewRays", "sayingYesIf", "(IZZ)I"⟩, 11), (⟨"NewRays", "seesAllBright", "(I)Z"⟩, 11), (⟨"NewRays", "standsOnTrial", "(II)Z"⟩, 11), (⟨"NewRays", "saidIfGoneFrom", "(IIII)I"⟩, 11), (⟨"NewRays", "sayingRight", "(I)I"⟩, 11), (⟨"NewRays", "ordersBehind", "(I)I"⟩, 11), (⟨"NewRays", "rightByMost", "(I)I"⟩, 11), (⟨"NewRays", "tenthsOfYes", "(III)I"⟩, 11), (⟨"NewRays", "addToWays", "(I)V"⟩, 11), (⟨"NewRays", "winterOnTrial", "(I)V"⟩, 11), (⟨"NewRaysModel", "readText", "()I"⟩, 26)]
theorem lw_r1 : ∀ q ∈ lw_privs_1, lw_okq q := List.forall_mem_cons.mpr ⟨lw_p0, List.forall_mem_cons.mpr ⟨lw_p1, List.forall_mem_cons.mpr ⟨lw_p2, List.forall_mem_cons.mpr ⟨lw_p3, List.forall_mem_cons.mpr ⟨lw_p4, List.forall_mem_cons.mpr ⟨lw_p5, List.forall_mem_cons.mpr ⟨lw_p6, List.forall_mem_cons.mpr ⟨lw_p7, List.forall_mem_cons.mpr ⟨lw_p8, List.forall_mem_cons.mpr ⟨lw_p9, List.forall_mem_cons.mpr ⟨lw_p10, List.forall_mem_cons.mpr ⟨lw_p11, List.forall_mem_cons.mpr ⟨lw_p12, List.forall_mem_cons.mpr ⟨lw_p13, List.forall_mem_cons.mpr ⟨lw_p14, List.forall_mem_cons.mpr ⟨lw_p15, fun _ h => absurd h List.not_mem_nil⟩⟩⟩⟩⟩⟩⟩⟩⟩⟩⟩⟩⟩⟩⟩⟩
theorem lw_p16 : lw_okq (⟨"NewRaysModel", "figure", "(II)I"⟩, 26) := ⟨⟨by decide +kernel, by decide +kernel⟩, List.mem_of_getElem? (i := 537) (by decide +kernel), List.mem_of_getElem? (i := 642) (by decide +kernel), List.mem_of_getElem? (i := 643) (by decide +kernel)⟩
theorem lw_p17 : lw_okq (⟨"NewRaysModel", "isReader", "(I)Z"⟩, 26) := ⟨⟨by decide +kernel, by decide +kernel⟩, List.mem_of_getElem? (i := 537) (by decide +kernel), List.mem_of_getElem? (i := 654) (by decide +kernel), List.mem_of_getElem? (i := 655) (by decide +kernel)⟩
theorem lw_p18 : lw_okq (⟨"NewRaysModel", "isSample", "(I)Z"⟩, 26) := ⟨⟨by decide +kernel, by decide +kernel⟩, List.mem_of_getElem? (i := 537) (by decide +kernel), List.mem_of_getElem? (i := 662) (by decide +kernel), List.mem_of_getElem? (i := 663) (by decide +kernel)⟩
theorem lw_p19 : lw_okq (⟨"NewRaysModel", "yesOn", "(I)I"⟩, 26) := ⟨⟨by decide +kernel, by decide +kernel⟩, List.mem_of_getElem? (i := 537) (by decide +kernel), List.mem_of_getElem? (i := 666) (by decide +kernel), List.mem_of_getElem? (i := 667) (by decide +kernel)⟩
theorem lw_p20 : lw_okq (⟨"NewRaysModel", "saysOn", "(III)Z"⟩, 26) := ⟨⟨by decide +kernel, by decide +kernel⟩, List.mem_of_getElem? (i := 537) (by decide +kernel), List.mem_of_getElem? (i := 670) (by decide +kernel), List.mem_of_getElem? (i := 671) (by decide +kernel)⟩
theorem lw_p21 : lw_okq (⟨"NewRaysModel", "brightOn", "(III)I"⟩, 26) := ⟨⟨by decide +kernel, by decide +kernel⟩, List.mem_of_getElem? (i := 537) (by decide +kernel), List.mem_of_getElem? (i := 674) (by decide +kernel), List.mem_of_getElem? (i := 675) (by decide +kernel)⟩
theorem lw_p22 : lw_okq (⟨"NewRaysModel", "brightFor", "(IIIZI)I"⟩, 26) := ⟨⟨by decide +kernel, by decide +kernel⟩, List.mem_of_getElem? (i := 537) (by decide +kernel), List.mem_of_getElem? (i := 678) (by decide +kernel), List.mem_of_getElem? (i := 679) (by decide +kernel)⟩
theorem lw_p23 : lw_okq (⟨"NewRaysModel", "saysYes", "(II)Z"⟩, 26) := ⟨⟨by decide +kernel, by decide +kernel⟩, List.mem_of_getElem? (i := 537) (by decide +kernel), List.mem_of_getElem? (i := 682) (by decide +kernel), List.mem_of_getElem? (i := 683) (by decide +kernel)⟩
theorem lw_p24 : lw_okq (⟨"NewRaysModel", "papersOn", "(II)I"⟩, 26) := ⟨⟨by decide +kernel, by decide +kernel⟩, List.mem_of_getElem? (i := 537) (by decide +kernel), List.mem_of_getElem? (i := 686) (by decide +kernel), List.mem_of_getElem? (i := 687) (by decide +kernel)⟩
theorem lw_p25 : lw_okq (⟨"NewRaysModel", "keepAct", "()V"⟩, 26) := ⟨⟨by decide +kernel, by decide +kernel⟩, List.mem_of_getElem? (i := 537) (by decide +kernel), List.mem_of_getElem? (i := 701) (by decide +kernel), List.mem_of_getElem? (i := 702) (by decide +kernel)⟩
theorem lw_p26 : lw_okq (⟨"NewRaysModel", "readOn", "(III)Z"⟩, 26) := ⟨⟨by decide +kernel, by decide +kernel⟩, List.mem_of_getElem? (i := 537) (by decide +kernel), List.mem_of_getElem? (i := 705) (by decide +kernel), List.mem_of_getElem? (i := 706) (by decide +kernel)⟩
theorem lw_p27 : lw_okq (⟨"NewRaysModel", "covers", "(I)Z"⟩, 26) := ⟨⟨by decide +kernel, by decide +kernel⟩, List.mem_of_getElem? (i := 537) (by decide +kernel), List.mem_of_getElem? (i := 744) (by decide +kernel), List.mem_of_getElem? (i := 745) (by decide +kernel)⟩
theorem lw_p28 : lw_okq (⟨"NewRaysModel", "layTrial", "()V"⟩, 26) := ⟨⟨by decide +kernel, by decide +kernel⟩, List.mem_of_getElem? (i := 537) (by decide +kernel), List.mem_of_getElem? (i := 760) (by decide +kernel), List.mem_of_getElem? (i := 761) (by decide +kernel)⟩
theorem lw_p29 : lw_okq (⟨"NewRaysModel", "tryThing", "(II)Z"⟩, 26) := ⟨⟨by decide +kernel, by decide +kernel⟩, List.mem_of_getElem? (i := 537) (by decide +kernel), List.mem_of_getElem? (i := 764) (by decide +kernel), List.mem_of_getElem? (i := 765) (by decide +kernel)⟩
theorem lw_p30 : lw_okq (⟨"NewRaysModel", "mayExpect", "(II)Z"⟩, 26) := ⟨⟨by decide +kernel, by decide +kernel⟩, List.mem_of_getElem? (i := 537) (by decide +kernel), List.mem_of_getElem? (i := 780) (by decide +kernel), List.mem_of_getElem? (i := 781) (by decide +kernel)⟩
theorem lw_p31 : lw_okq (⟨"NewRaysModel", "sampleIn", "(III)I"⟩, 26) := ⟨⟨by decide +kernel, by decide +kernel⟩, List.mem_of_getElem? (i := 537) (by decide +kernel), List.mem_of_getElem? (i := 789) (by decide +kernel), List.mem_of_getElem? (i := 790) (by decide +kernel)⟩
def lw_privs_2 : List (MethodName × Nat) := [(⟨"NewRaysModel", "figure", "(II)I"⟩, 26), (⟨"NewRaysModel", "isReader", "(I)Z"⟩, 26), (⟨"NewRaysModel", "isSample", "(I)Z"⟩, 26), (⟨"NewRaysModel", "yesOn", "(I)I"⟩, 26), (⟨"NewRaysModel", "saysOn", "(III)Z"⟩, 26), (⟨"NewRaysModel", "brightOn", "(III)I"⟩, 26), (⟨"NewRaysModel", "brightFor", "(IIIZI)I"⟩, 26), (⟨"NewRaysModel", "saysYes", "(II)Z"⟩, 26), (⟨"NewRaysModel", "papersOn", "(II)I"⟩, 26), (⟨"NewRaysModel", "keepAct", "()V"⟩, 26), (⟨"NewRaysModel", "readOn", "(III)Z"⟩, 26), (⟨"NewRaysModel", "covers", "(I)Z"⟩, 26), (⟨"NewRaysModel", "layTrial", "()V"⟩, 26), (⟨"NewRaysModel", "tryThing", "(II)Z"⟩, 26), (⟨"NewRaysModel", "mayExpect", "(II)Z"⟩, 26), (⟨"NewRaysModel", "sampleIn", "(III)I"⟩, 26)]
theorem lw_r2 : ∀ q ∈ lw_privs_2, lw_okq q := List.forall_mem_cons.mpr ⟨lw_p16, List.forall_mem_cons.mpr ⟨lw_p17, List.forall_mem_cons.mpr ⟨lw_p18, List.forall_mem_cons.mpr ⟨lw_p19, List.forall_mem_cons.mpr ⟨lw_p20, List.forall_mem_cons.mpr ⟨lw_p21, List.forall_mem_cons.mpr ⟨lw_p22, List.forall_mem_cons.mpr ⟨lw_p23, List.forall_mem_cons.mpr ⟨lw_p24, List.forall_mem_cons.mpr ⟨lw_p25, List.forall_mem_cons.mpr ⟨lw_p26, List.forall_mem_cons.mpr ⟨lw_p27, List.forall_mem_cons.mpr ⟨lw_p28, List.forall_mem_cons.mpr ⟨lw_p29, List.forall_mem_cons.mpr ⟨lw_p30, List.forall_mem_cons.mpr ⟨lw_p31, fun _ h => absurd h List.not_mem_nil⟩⟩⟩⟩⟩⟩⟩⟩⟩⟩⟩⟩⟩⟩⟩⟩
theorem lw_p32 : lw_okq (⟨"NewRaysModel", "isGone", "(IIIII)Z"⟩, 26) := ⟨⟨by decide +kernel, by decide +kernel⟩, List.mem_of_getElem? (i := 537) (by decide +kernel), List.mem_of_getElem? (i := 793) (by decide +kernel), List.mem_of_getElem? (i := 794) (by decide +kernel)⟩
theorem lw_p33 : lw_okq (⟨"NewRaysModel", "rightBy", "(I)I"⟩, 26) := ⟨⟨by decide +kernel, by decide +kernel⟩, List.mem_of_getElem? (i := 537) (by decide +kernel), List.mem_of_getElem? (i := 804) (by decide +kernel), List.mem_of_getElem? (i := 805) (by decide +kernel)⟩
theorem lw_p34 : lw_okq (⟨"NewRaysModel", "isRest", "(IIIII)Z"⟩, 26) := ⟨⟨by decide +kernel, by decide +kernel⟩, List.mem_of_getElem? (i := 537) (by decide +kernel), List.mem_of_getElem? (i := 815) (by decide +kernel), List.mem_of_getElem? (i := 816) (by decide +kernel)⟩
theorem lw_p35 : lw_okq (⟨"NewRaysModel", "gain", "(IIIII)I"⟩, 26) := ⟨⟨by decide +kernel, by decide +kernel⟩, List.mem_of_getElem? (i := 537) (by decide +kernel), List.mem_of_getElem? (i := 819) (by decide +kernel), List.mem_of_getElem? (i := 820) (by decide +kernel)⟩
theorem lw_p36 : lw_okq (⟨"NewRaysModel", "isRight", "(ZI)Z"⟩, 26) := ⟨⟨by decide +kernel, by decide +kernel⟩, List.mem_of_getElem? (i := 537) (by decide +kernel), List.mem_of_getElem? (i := 823) (by decide +kernel), List.mem_of_getElem? (i := 824) (by decide +kernel)⟩
theorem lw_p37 : lw_okq (⟨"NewRaysModel", "rightOn", "(I)I"⟩, 26) := ⟨⟨by decide +kernel, by decide +kernel⟩, List.mem_of_getElem? (i := 537) (by decide +kernel), List.mem_of_getElem? (i := 845) (by decide +kernel), List.mem_of_getElem? (i := 846) (by decide +kernel)⟩
def lw_privs_3 : List (MethodName × Nat) := [(⟨"NewRaysModel", "isGone", "(IIIII)Z"⟩, 26), (⟨"NewRaysModel", "rightBy", "(I)I"⟩, 26), (⟨"NewRaysModel", "isRest", "(IIIII)Z"⟩, 26), (⟨"NewRaysModel", "gain", "(IIIII)I"⟩, 26), (⟨"NewRaysModel", "isRight", "(ZI)Z"⟩, 26), (⟨"NewRaysModel", "rightOn", "(I)I"⟩, 26)]
theorem lw_r3 : ∀ q ∈ lw_privs_3, lw_okq q := List.forall_mem_cons.mpr ⟨lw_p32, List.forall_mem_cons.mpr ⟨lw_p33, List.forall_mem_cons.mpr ⟨lw_p34, List.forall_mem_cons.mpr ⟨lw_p35, List.forall_mem_cons.mpr ⟨lw_p36, List.forall_mem_cons.mpr ⟨lw_p37, fun _ h => absurd h List.not_mem_nil⟩⟩⟩⟩⟩⟩
def lw_privs : List (MethodName × Nat) := lw_privs_1 ++ (lw_privs_2 ++ (lw_privs_3))
def lw_tbl : List Cond := k2_sels lw_privs ++ tables_1
theorem lw_privs_ok : ∀ q ∈ lw_privs, lw_okq q := by
  show ∀ q ∈ lw_privs_1 ++ (lw_privs_2 ++ (lw_privs_3)), lw_okq q
  exact List.forall_mem_append.mpr ⟨lw_r1, List.forall_mem_append.mpr ⟨lw_r2, lw_r3⟩⟩
def RX0 : String := "NewRays$Acts"
def TX0 : u_T := fun k => match k with
  | 0 => ("NewRays$Acts", "ahead", "[LNewRays$Bench;", true)
  | 1 => ("NewRays$Acts", "next", "I", false)
  | _ => ("NewRays$Acts", "size", "I", false)
def tyX0 : Nat → FieldType := fun k => match k with
  | 0 => .array (.object "NewRays$Bench")
  | 1 => .int
  | _ => .int
theorem nmX0 : ∀ a, a < 3 → ∀ b, b < 3 → a ≠ b → (TX0 a).2.1 ≠ (TX0 b).2.1 := by decide +kernel
theorem tyX0_ok : ∀ k, k < 3 → parseFieldDescriptor (TX0 k).2.2.1 = some (tyX0 k) := by decide +kernel
abbrev cX0_init : ByteArray := prog_2_method_1_code
def yX0_init : MethodName := ⟨RX0, "<init>", "()V"⟩
abbrev cX0_clear : ByteArray := prog_2_method_2_code
def yX0_clear : MethodName := ⟨RX0, "clear", "()V"⟩
abbrev cX0_remember : ByteArray := prog_2_method_3_code
def yX0_remember : MethodName := ⟨RX0, "remember", "(LNewRays$Bench;)V"⟩
abbrev cX0_takeBack : ByteArray := prog_2_method_4_code
def yX0_takeBack : MethodName := ⟨RX0, "takeBack", "(LNewRays$Bench;)V"⟩
def RX1 : String := "NewRays$Bench"
def TX1 : u_T := fun k => match k with
  | 0 => ("NewRays$Bench", "yesPapers", "I", false)
  | 1 => ("NewRays$Bench", "noPapers", "I", false)
  | 2 => ("NewRays$Bench", "readings", "I", false)
  | 3 => ("NewRays$Bench", "prismIn", "Z", false)
  | _ => ("NewRays$Bench", "toldIn", "Z", false)
def tyX1 : Nat → FieldType := fun k => match k with
  | 0 => .int
  | 1 => .int
  | 2 => .int
  | 3 => .boolean
  | _ => .boolean
theorem nmX1 : ∀ a, a < 5 → ∀ b, b < 5 → a ≠ b → (TX1 a).2.1 ≠ (TX1 b).2.1 := by decide +kernel
theorem tyX1_ok : ∀ k, k < 5 → parseFieldDescriptor (TX1 k).2.2.1 = some (tyX1 k) := by decide +kernel
abbrev cX1_init : ByteArray := prog_3_method_1_code
def yX1_init : MethodName := ⟨RX1, "<init>", "()V"⟩
abbrev cX1_clear : ByteArray := prog_3_method_2_code
def yX1_clear : MethodName := ⟨RX1, "clear", "()V"⟩
abbrev cX1_copyFrom : ByteArray := prog_3_method_3_code
def yX1_copyFrom : MethodName := ⟨RX1, "copyFrom", "(LNewRays$Bench;)V"⟩
abbrev cX1_paper : ByteArray := prog_3_method_4_code
def yX1_paper : MethodName := ⟨RX1, "paper", "(II)I"⟩
abbrev cX1_onSample : ByteArray := prog_3_method_5_code
def yX1_onSample : MethodName := ⟨RX1, "onSample", "(II)I"⟩
abbrev cX1_printers : ByteArray := prog_3_method_6_code
def yX1_printers : MethodName := ⟨RX1, "printers", "(II)I"⟩
abbrev cX1_allPapers : ByteArray := prog_3_method_7_code
def yX1_allPapers : MethodName := ⟨RX1, "allPapers", "()I"⟩
abbrev cX1_paperCount : ByteArray := prog_3_method_8_code
def yX1_paperCount : MethodName := ⟨RX1, "paperCount", "()I"⟩
abbrev cX1_rightPapers : ByteArray := prog_3_method_9_code
def yX1_rightPapers : MethodName := ⟨RX1, "rightPapers", "(LNewRays$Room;)I"⟩
abbrev cX1_readingsOf : ByteArray := prog_3_method_10_code
def yX1_readingsOf : MethodName := ⟨RX1, "readingsOf", "(I)I"⟩
abbrev cX1_setReadings : ByteArray := prog_3_method_11_code
def yX1_setReadings : MethodName := ⟨RX1, "setReadings", "(II)V"⟩
abbrev cX1_seenBy : ByteArray := prog_3_method_12_code
def yX1_seenBy : MethodName := ⟨RX1, "seenBy", "(LNewRays$Room;II)I"⟩
abbrev cX1_takeReading : ByteArray := prog_3_method_13_code
def yX1_takeReading : MethodName := ⟨RX1, "takeReading", "(LNewRays$Room;II)Z"⟩
abbrev cX1_dropPaper : ByteArray := prog_3_method_14_code
def yX1_dropPaper : MethodName := ⟨RX1, "dropPaper", "(I)V"⟩
def RX2 : String := "NewRays$Heard"
def TX2 : u_T := fun k => match k with
  | 0 => ("NewRays$Heard", "readers", "[I", true)
  | 1 => ("NewRays$Heard", "samples", "[I", true)
  | 2 => ("NewRays$Heard", "prismIn", "[Z", true)
  | 3 => ("NewRays$Heard", "saidYes", "[Z", true)
  | _ => ("NewRays$Heard", "size", "I", false)
def tyX2 : Nat → FieldType := fun k => match k with
  | 0 => .array .int
  | 1 => .array .int
  | 2 => .array .boolean
  | 3 => .array .boolean
  | _ => .int
theorem nmX2 : ∀ a, a < 5 → ∀ b, b < 5 → a ≠ b → (TX2 a).2.1 ≠ (TX2 b).2.1 := by decide +kernel
theorem tyX2_ok : ∀ k, k < 5 → parseFieldDescriptor (TX2 k).2.2.1 = some (tyX2 k) := by decide +kernel
abbrev cX2_init : ByteArray := prog_4_method_1_code
def yX2_init : MethodName := ⟨RX2, "<init>", "()V"⟩
abbrev cX2_append : ByteArray := prog_4_method_2_code
def yX2_append : MethodName := ⟨RX2, "append", "(IIZZ)Z"⟩
abbrev cX2_agrees : ByteArray := prog_4_method_3_code
def yX2_agrees : MethodName := ⟨RX2, "agrees", "(LNewRays$Room;II)Z"⟩
def RX3 : String := "NewRays$Room"
def TX3 : u_T := fun k => match k with
  | 0 => ("NewRays$Room", "expects", "[I", true)
  | 1 => ("NewRays$Room", "yesFrom", "[I", true)
  | 2 => ("NewRays$Room", "kinds", "[I", true)
  | 3 => ("NewRays$Room", "brightness", "[I", true)
  | 4 => ("NewRays$Room", "readers", "I", false)
  | _ => ("NewRays$Room", "samples", "I", false)
def tyX3 : Nat → FieldType := fun k => match k with
  | 0 => .array .int
  | 1 => .array .int
  | 2 => .array .int
  | 3 => .array .int
  | 4 => .int
  | _ => .int
theorem nmX3 : ∀ a, a < 6 → ∀ b, b < 6 → a ≠ b → (TX3 a).2.1 ≠ (TX3 b).2.1 := by decide +kernel
theorem tyX3_ok : ∀ k, k < 6 → parseFieldDescriptor (TX3 k).2.2.1 = some (tyX3 k) := by decide +kernel
abbrev cX3_init : ByteArray := prog_5_method_1_code
def yX3_init : MethodName := ⟨RX3, "<init>", "()V"⟩
abbrev cX3_make : ByteArray := prog_5_method_2_code
def yX3_make : MethodName := ⟨RX3, "make", "(LNewRays$Text;)V"⟩
abbrev cX3_addReader : ByteArray := prog_5_method_3_code
def yX3_addReader : MethodName := ⟨RX3, "addReader", "(LNewRays$Text;I)V"⟩
abbrev cX3_addSample : ByteArray := prog_5_method_4_code
def yX3_addSample : MethodName := ⟨RX3, "addSample", "(I)V"⟩
abbrev cX3_hasReader : ByteArray := prog_5_method_5_code
def yX3_hasReader : MethodName := ⟨RX3, "hasReader", "(I)Z"⟩
abbrev cX3_hasSample : ByteArray := prog_5_method_6_code
def yX3_hasSample : MethodName := ⟨RX3, "hasSample", "(I)Z"⟩
abbrev cX3_hasBoth : ByteArray := prog_5_method_7_code
def yX3_hasBoth : MethodName := ⟨RX3, "hasBoth", "(II)Z"⟩
abbrev cX3_allReaders : ByteArray := prog_5_method_8_code
def yX3_allReaders : MethodName := ⟨RX3, "allReaders", "()I"⟩
abbrev cX3_isBright : ByteArray := prog_5_method_9_code
def yX3_isBright : MethodName := ⟨RX3, "isBright", "(I)Z"⟩
abbrev cX3_expectsOf : ByteArray := prog_5_method_10_code
def yX3_expectsOf : MethodName := ⟨RX3, "expectsOf", "(I)I"⟩
abbrev cX3_seen : ByteArray := prog_5_method_11_code
def yX3_seen : MethodName := ⟨RX3, "seen", "(IIIIZZ)I"⟩
abbrev cX3_saysYes : ByteArray := prog_5_method_12_code
def yX3_saysYes : MethodName := ⟨RX3, "saysYes", "(II)Z"⟩
def RX4 : String := "NewRays$Text"
def TX4 : u_T := fun k => match k with
  | 0 => ("NewRays$Text", "letters", "[I", true)
  | _ => ("NewRays$Text", "length", "I", false)
def tyX4 : Nat → FieldType := fun k => match k with
  | 0 => .array .int
  | _ => .int
theorem nmX4 : ∀ a, a < 2 → ∀ b, b < 2 → a ≠ b → (TX4 a).2.1 ≠ (TX4 b).2.1 := by decide +kernel
theorem tyX4_ok : ∀ k, k < 2 → parseFieldDescriptor (TX4 k).2.2.1 = some (tyX4 k) := by decide +kernel
abbrev cX4_init : ByteArray := prog_6_method_1_code
def yX4_init : MethodName := ⟨RX4, "<init>", "()V"⟩
abbrev cX4_append : ByteArray := prog_6_method_2_code
def yX4_append : MethodName := ⟨RX4, "append", "(I)Z"⟩
abbrev cX4_letterAt : ByteArray := prog_6_method_3_code
def yX4_letterAt : MethodName := ⟨RX4, "letterAt", "(I)I"⟩
abbrev cX4_figureAt : ByteArray := prog_6_method_4_code
def yX4_figureAt : MethodName := ⟨RX4, "figureAt", "(I)I"⟩
abbrev cX4_firstFault : ByteArray := prog_6_method_5_code
def yX4_firstFault : MethodName := ⟨RX4, "firstFault", "()I"⟩
abbrev cX4_readerFault : ByteArray := prog_6_method_6_code
def yX4_readerFault : MethodName := ⟨RX4, "readerFault", "(I)I"⟩
abbrev cX4_figureFault : ByteArray := prog_6_method_7_code
def yX4_figureFault : MethodName := ⟨RX4, "figureFault", "(III)I"⟩
def RX5 : String := "NewRays"
def TX5 : u_T := fun k => match k with
  | 0 => ("NewRays", "text", "LNewRays$Text;", true)
  | 1 => ("NewRays", "theRoom", "LNewRays$Room;", true)
  | 2 => ("NewRays", "bench", "LNewRays$Bench;", true)
  | 3 => ("NewRays", "acts", "LNewRays$Acts;", true)
  | 4 => ("NewRays", "heard", "LNewRays$Heard;", true)
  | 5 => ("NewRays", "slots", "[LNewRays$Bench;", true)
  | 6 => ("NewRays", "isKept", "[Z", true)
  | 7 => ("NewRays", "theSeed", "J", false)
  | 8 => ("NewRays", "trial", "LNewRays$Bench;", true)
  | 9 => ("NewRays", "bitsOf", "[I", true)
  | _ => ("NewRays", "ways", "[I", true)
def tyX5 : Nat → FieldType := fun k => match k with
  | 0 => .object "NewRays$Text"
  | 1 => .object "NewRays$Room"
  | 2 => .object "NewRays$Bench"
  | 3 => .object "NewRays$Acts"
  | 4 => .object "NewRays$Heard"
  | 5 => .array (.object "NewRays$Bench")
  | 6 => .array .boolean
  | 7 => .long
  | 8 => .object "NewRays$Bench"
  | 9 => .array .int
  | _ => .array .int
theorem nmX5 : ∀ a, a < 11 → ∀ b, b < 11 → a ≠ b → (TX5 a).2.1 ≠ (TX5 b).2.1 := by decide +kernel
theorem tyX5_ok : ∀ k, k < 11 → parseFieldDescriptor (TX5 k).2.2.1 = some (tyX5 k) := by decide +kernel
abbrev cX5_init : ByteArray := prog_1_method_1_code
def yX5_init : MethodName := ⟨RX5, "<init>", "()V"⟩
abbrev cX5_write : ByteArray := prog_1_method_2_code
def yX5_write : MethodName := ⟨RX5, "write", "(I)I"⟩
abbrev cX5_wipe : ByteArray := prog_1_method_3_code
def yX5_wipe : MethodName := ⟨RX5, "wipe", "()I"⟩
abbrev cX5_fault : ByteArray := prog_1_method_4_code
def yX5_fault : MethodName := ⟨RX5, "fault", "()I"⟩
abbrev cX5_room : ByteArray := prog_1_method_5_code
def yX5_room : MethodName := ⟨RX5, "room", "()I"⟩
abbrev cX5_reader : ByteArray := prog_1_method_6_code
def yX5_reader : MethodName := ⟨RX5, "reader", "(II)I"⟩
abbrev cX5_sample : ByteArray := prog_1_method_7_code
def yX5_sample : MethodName := ⟨RX5, "sample", "(II)I"⟩
abbrev cX5_bright : ByteArray := prog_1_method_8_code
def yX5_bright : MethodName := ⟨RX5, "bright", "(II)I"⟩
abbrev cX5_read : ByteArray := prog_1_method_9_code
def yX5_read : MethodName := ⟨RX5, "read", "(II)I"⟩
abbrev cX5_rest : ByteArray := prog_1_method_10_code
def yX5_rest : MethodName := ⟨RX5, "rest", "(I)I"⟩
abbrev cX5_withdraw : ByteArray := prog_1_method_11_code
def yX5_withdraw : MethodName := ⟨RX5, "withdraw", "(II)I"⟩
abbrev cX5_prism : ByteArray := prog_1_method_12_code
def yX5_prism : MethodName := ⟨RX5, "prism", "()I"⟩
abbrev cX5_tell : ByteArray := prog_1_method_13_code
def yX5_tell : MethodName := ⟨RX5, "tell", "()I"⟩
abbrev cX5_undo : ByteArray := prog_1_method_14_code
def yX5_undo : MethodName := ⟨RX5, "undo", "()I"⟩
abbrev cX5_fooled : ByteArray := prog_1_method_15_code
def yX5_fooled : MethodName := ⟨RX5, "fooled", "(I)I"⟩
abbrev cX5_truly : ByteArray := prog_1_method_16_code
def yX5_truly : MethodName := ⟨RX5, "truly", "(I)I"⟩
abbrev cX5_cover : ByteArray := prog_1_method_17_code
def yX5_cover : MethodName := ⟨RX5, "cover", "()I"⟩
abbrev cX5_wrong : ByteArray := prog_1_method_18_code
def yX5_wrong : MethodName := ⟨RX5, "wrong", "(Z)I"⟩
abbrev cX5_judge : ByteArray := prog_1_method_19_code
def yX5_judge : MethodName := ⟨RX5, "judge", "(II)I"⟩
abbrev cX5_hear : ByteArray := prog_1_method_20_code
def yX5_hear : MethodName := ⟨RX5, "hear", "(IIII)I"⟩
abbrev cX5_unhear : ByteArray := prog_1_method_21_code
def yX5_unhear : MethodName := ⟨RX5, "unhear", "()I"⟩
abbrev cX5_expect : ByteArray := prog_1_method_22_code
def yX5_expect : MethodName := ⟨RX5, "expect", "(I)I"⟩
abbrev cX5_gone : ByteArray := prog_1_method_23_code
def yX5_gone : MethodName := ⟨RX5, "gone", "(IIII)I"⟩
abbrev cX5_share : ByteArray := prog_1_method_24_code
def yX5_share : MethodName := ⟨RX5, "share", "(IZ)I"⟩
abbrev cX5_rests : ByteArray := prog_1_method_25_code
def yX5_rests : MethodName := ⟨RX5, "rests", "(IIII)I"⟩
abbrev cX5_flicker : ByteArray := prog_1_method_26_code
def yX5_flicker : MethodName := ⟨RX5, "flicker", "(IIIZ)I"⟩
abbrev cX5_seed : ByteArray := prog_1_method_27_code
def yX5_seed : MethodName := ⟨RX5, "seed", "(J)J"⟩
abbrev cX5_winters : ByteArray := prog_1_method_28_code
def yX5_winters : MethodName := ⟨RX5, "winters", "(I)I"⟩
abbrev cX5_keep : ByteArray := prog_1_method_29_code
def yX5_keep : MethodName := ⟨RX5, "keep", "(I)I"⟩
abbrev cX5_again : ByteArray := prog_1_method_30_code
def yX5_again : MethodName := ⟨RX5, "again", "(I)I"⟩
abbrev cX5_count : ByteArray := prog_1_method_31_code
def yX5_count : MethodName := ⟨RX5, "count", "(I)I"⟩
abbrev cX5_sayingYes : ByteArray := prog_1_method_32_code
def yX5_sayingYes : MethodName := ⟨RX5, "sayingYes", "(I)I"⟩
abbrev cX5_sayingYesIf : ByteArray := prog_1_method_33_code
def yX5_sayingYesIf : MethodName := ⟨RX5, "sayingYesIf", "(IZZ)I"⟩
abbrev cX5_sayingRight : ByteArray := prog_1_method_34_code
def yX5_sayingRight : MethodName := ⟨RX5, "sayingRight", "(I)I"⟩
abbrev cX5_seesAllBright : ByteArray := prog_1_method_35_code
def yX5_seesAllBright : MethodName := ⟨RX5, "seesAllBright", "(I)Z"⟩
abbrev cX5_standsOnTrial : ByteArray := prog_1_method_36_code
def yX5_standsOnTrial : MethodName := ⟨RX5, "standsOnTrial", "(II)Z"⟩
abbrev cX5_winterOnTrial : ByteArray := prog_1_method_37_code
def yX5_winterOnTrial : MethodName := ⟨RX5, "winterOnTrial", "(I)V"⟩
abbrev cX5_saidIfGoneFrom : ByteArray := prog_1_method_38_code
def yX5_saidIfGoneFrom : MethodName := ⟨RX5, "saidIfGoneFrom", "(IIII)I"⟩
abbrev cX5_rightByMost : ByteArray := prog_1_method_39_code
def yX5_rightByMost : MethodName := ⟨RX5, "rightByMost", "(I)I"⟩
abbrev cX5_ordersBehind : ByteArray := prog_1_method_40_code
def yX5_ordersBehind : MethodName := ⟨RX5, "ordersBehind", "(I)I"⟩
abbrev cX5_isContent : ByteArray := prog_1_method_41_code
def yX5_isContent : MethodName := ⟨RX5, "isContent", "(IIZZ)Z"⟩
abbrev cX5_gain : ByteArray := prog_1_method_42_code
def yX5_gain : MethodName := ⟨RX5, "gain", "(IIZZ)I"⟩
abbrev cX5_tenthsOfYes : ByteArray := prog_1_method_43_code
def yX5_tenthsOfYes : MethodName := ⟨RX5, "tenthsOfYes", "(III)I"⟩
abbrev cX5_addToWays : ByteArray := prog_1_method_44_code
def yX5_addToWays : MethodName := ⟨RX5, "addToWays", "(I)V"⟩
abbrev cX5_factorial : ByteArray := prog_1_method_45_code
def yX5_factorial : MethodName := ⟨RX5, "factorial", "(I)I"⟩
abbrev cX5_fraction : ByteArray := prog_1_method_46_code
def yX5_fraction : MethodName := ⟨RX5, "fraction", "(IIZ)I"⟩
abbrev cX5_commonDivisor : ByteArray := prog_1_method_47_code
def yX5_commonDivisor : MethodName := ⟨RX5, "commonDivisor", "(II)I"⟩
abbrev cX5_hasFigures : ByteArray := prog_1_method_48_code
def yX5_hasFigures : MethodName := ⟨RX5, "hasFigures", "(II)Z"⟩
abbrev cX5_figure : ByteArray := prog_1_method_49_code
def yX5_figure : MethodName := ⟨RX5, "figure", "(II)I"⟩
def RX6 : String := "NewRaysModel"
def TX6 : u_T := fun k => match k with
  | 0 => ("NewRaysModel", "readers", "I", false)
  | 1 => ("NewRaysModel", "samples", "I", false)
  | 2 => ("NewRaysModel", "expects", "[I", true)
  | 3 => ("NewRaysModel", "from", "[I", true)
  | 4 => ("NewRaysModel", "kind", "[I", true)
  | 5 => ("NewRaysModel", "glow", "[I", true)
  | 6 => ("NewRaysModel", "now", "[I", true)
  | 7 => ("NewRaysModel", "readOf", "[I", true)
  | 8 => ("NewRaysModel", "readGlow", "[I", true)
  | 9 => ("NewRaysModel", "readReaders", "I", false)
  | 10 => ("NewRaysModel", "readSamples", "I", false)
  | 11 => ("NewRaysModel", "text", "[I", true)
  | 12 => ("NewRaysModel", "length", "I", false)
  | 13 => ("NewRaysModel", "at", "I", false)
  | 14 => ("NewRaysModel", "faultAt", "I", false)
  | 15 => ("NewRaysModel", "acts", "I", false)
  | 16 => ("NewRaysModel", "next", "I", false)
  | 17 => ("NewRaysModel", "row", "[I", true)
  | 18 => ("NewRaysModel", "heard", "I", false)
  | 19 => ("NewRaysModel", "heardOf", "[I", true)
  | 20 => ("NewRaysModel", "heardOn", "[I", true)
  | 21 => ("NewRaysModel", "heardIn", "[I", true)
  | 22 => ("NewRaysModel", "heardYes", "[I", true)
  | 23 => ("NewRaysModel", "seed", "J", false)
  | 24 => ("NewRaysModel", "isKept", "[Z", true)
  | _ => ("NewRaysModel", "kept", "[I", true)
def tyX6 : Nat → FieldType := fun k => match k with
  | 0 => .int
  | 1 => .int
  | 2 => .array .int
  | 3 => .array .int
  | 4 => .array .int
  | 5 => .array .int
  | 6 => .array .int
  | 7 => .array .int
  | 8 => .array .int
  | 9 => .int
  | 10 => .int
  | 11 => .array .int
  | 12 => .int
  | 13 => .int
  | 14 => .int
  | 15 => .int
  | 16 => .int
  | 17 => .array .int
  | 18 => .int
  | 19 => .array .int
  | 20 => .array .int
  | 21 => .array .int
  | 22 => .array .int
  | 23 => .long
  | 24 => .array .boolean
  | _ => .array .int
theorem nmX6 : ∀ a, a < 26 → ∀ b, b < 26 → a ≠ b → (TX6 a).2.1 ≠ (TX6 b).2.1 := by decide +kernel
theorem tyX6_ok : ∀ k, k < 26 → parseFieldDescriptor (TX6 k).2.2.1 = some (tyX6 k) := by decide +kernel
abbrev cX6_init : ByteArray := prog_8_method_1_code
def yX6_init : MethodName := ⟨RX6, "<init>", "()V"⟩
abbrev cX6_in : ByteArray := prog_8_method_3_code
def yX6_in : MethodName := ⟨RX6, "in", "(JJJ)Z"⟩
abbrev cX6_has : ByteArray := prog_8_method_4_code
def yX6_has : MethodName := ⟨RX6, "has", "(II)Z"⟩
abbrev cX6_ones : ByteArray := prog_8_method_5_code
def yX6_ones : MethodName := ⟨RX6, "ones", "(I)I"⟩
abbrev cX6_write : ByteArray := prog_8_method_6_code
def yX6_write : MethodName := ⟨RX6, "write", "(I)I"⟩
abbrev cX6_wipe : ByteArray := prog_8_method_7_code
def yX6_wipe : MethodName := ⟨RX6, "wipe", "()I"⟩
abbrev cX6_figure : ByteArray := prog_8_method_8_code
def yX6_figure : MethodName := ⟨RX6, "figure", "(II)I"⟩
abbrev cX6_readText : ByteArray := prog_8_method_9_code
def yX6_readText : MethodName := ⟨RX6, "readText", "()I"⟩
abbrev cX6_fault : ByteArray := prog_8_method_10_code
def yX6_fault : MethodName := ⟨RX6, "fault", "()I"⟩
abbrev cX6_room : ByteArray := prog_8_method_11_code
def yX6_room : MethodName := ⟨RX6, "room", "()I"⟩
abbrev cX6_isReader : ByteArray := prog_8_method_12_code
def yX6_isReader : MethodName := ⟨RX6, "isReader", "(I)Z"⟩
abbrev cX6_isSample : ByteArray := prog_8_method_13_code
def yX6_isSample : MethodName := ⟨RX6, "isSample", "(I)Z"⟩
abbrev cX6_brightFor : ByteArray := prog_8_method_14_code
def yX6_brightFor : MethodName := ⟨RX6, "brightFor", "(IIIZI)I"⟩
abbrev cX6_saysYes : ByteArray := prog_8_method_15_code
def yX6_saysYes : MethodName := ⟨RX6, "saysYes", "(II)Z"⟩
abbrev cX6_brightOn : ByteArray := prog_8_method_16_code
def yX6_brightOn : MethodName := ⟨RX6, "brightOn", "(III)I"⟩
abbrev cX6_saysOn : ByteArray := prog_8_method_17_code
def yX6_saysOn : MethodName := ⟨RX6, "saysOn", "(III)Z"⟩
abbrev cX6_isRight : ByteArray := prog_8_method_18_code
def yX6_isRight : MethodName := ⟨RX6, "isRight", "(ZI)Z"⟩
abbrev cX6_readOn : ByteArray := prog_8_method_19_code
def yX6_readOn : MethodName := ⟨RX6, "readOn", "(III)Z"⟩
abbrev cX6_reader : ByteArray := prog_8_method_20_code
def yX6_reader : MethodName := ⟨RX6, "reader", "(II)I"⟩
abbrev cX6_papersOn : ByteArray := prog_8_method_21_code
def yX6_papersOn : MethodName := ⟨RX6, "papersOn", "(II)I"⟩
abbrev cX6_yesOn : ByteArray := prog_8_method_22_code
def yX6_yesOn : MethodName := ⟨RX6, "yesOn", "(I)I"⟩
abbrev cX6_sample : ByteArray := prog_8_method_23_code
def yX6_sample : MethodName := ⟨RX6, "sample", "(II)I"⟩
abbrev cX6_bright : ByteArray := prog_8_method_24_code
def yX6_bright : MethodName := ⟨RX6, "bright", "(II)I"⟩
abbrev cX6_keepAct : ByteArray := prog_8_method_25_code
def yX6_keepAct : MethodName := ⟨RX6, "keepAct", "()V"⟩
abbrev cX6_read : ByteArray := prog_8_method_26_code
def yX6_read : MethodName := ⟨RX6, "read", "(II)I"⟩
abbrev cX6_rest : ByteArray := prog_8_method_27_code
def yX6_rest : MethodName := ⟨RX6, "rest", "(I)I"⟩
abbrev cX6_withdraw : ByteArray := prog_8_method_28_code
def yX6_withdraw : MethodName := ⟨RX6, "withdraw", "(II)I"⟩
abbrev cX6_prism : ByteArray := prog_8_method_29_code
def yX6_prism : MethodName := ⟨RX6, "prism", "()I"⟩
abbrev cX6_tell : ByteArray := prog_8_method_30_code
def yX6_tell : MethodName := ⟨RX6, "tell", "()I"⟩
abbrev cX6_undo : ByteArray := prog_8_method_31_code
def yX6_undo : MethodName := ⟨RX6, "undo", "()I"⟩
abbrev cX6_fooled : ByteArray := prog_8_method_32_code
def yX6_fooled : MethodName := ⟨RX6, "fooled", "(I)I"⟩
abbrev cX6_truly : ByteArray := prog_8_method_33_code
def yX6_truly : MethodName := ⟨RX6, "truly", "(I)I"⟩
abbrev cX6_covers : ByteArray := prog_8_method_34_code
def yX6_covers : MethodName := ⟨RX6, "covers", "(I)Z"⟩
abbrev cX6_cover : ByteArray := prog_8_method_35_code
def yX6_cover : MethodName := ⟨RX6, "cover", "()I"⟩
abbrev cX6_wrong : ByteArray := prog_8_method_36_code
def yX6_wrong : MethodName := ⟨RX6, "wrong", "(Z)I"⟩
abbrev cX6_layTrial : ByteArray := prog_8_method_37_code
def yX6_layTrial : MethodName := ⟨RX6, "layTrial", "()V"⟩
abbrev cX6_power : ByteArray := prog_8_method_38_code
def yX6_power : MethodName := ⟨RX6, "power", "(II)I"⟩
abbrev cX6_tryThing : ByteArray := prog_8_method_39_code
def yX6_tryThing : MethodName := ⟨RX6, "tryThing", "(II)Z"⟩
abbrev cX6_judge : ByteArray := prog_8_method_40_code
def yX6_judge : MethodName := ⟨RX6, "judge", "(II)I"⟩
abbrev cX6_hear : ByteArray := prog_8_method_41_code
def yX6_hear : MethodName := ⟨RX6, "hear", "(IIII)I"⟩
abbrev cX6_unhear : ByteArray := prog_8_method_42_code
def yX6_unhear : MethodName := ⟨RX6, "unhear", "()I"⟩
abbrev cX6_mayExpect : ByteArray := prog_8_method_43_code
def yX6_mayExpect : MethodName := ⟨RX6, "mayExpect", "(II)Z"⟩
abbrev cX6_expect : ByteArray := prog_8_method_44_code
def yX6_expect : MethodName := ⟨RX6, "expect", "(I)I"⟩
abbrev cX6_sampleIn : ByteArray := prog_8_method_45_code
def yX6_sampleIn : MethodName := ⟨RX6, "sampleIn", "(III)I"⟩
abbrev cX6_isGone : ByteArray := prog_8_method_46_code
def yX6_isGone : MethodName := ⟨RX6, "isGone", "(IIIII)Z"⟩
abbrev cX6_gone : ByteArray := prog_8_method_47_code
def yX6_gone : MethodName := ⟨RX6, "gone", "(IIII)I"⟩
abbrev cX6_factorial : ByteArray := prog_8_method_48_code
def yX6_factorial : MethodName := ⟨RX6, "factorial", "(I)I"⟩
abbrev cX6_common : ByteArray := prog_8_method_49_code
def yX6_common : MethodName := ⟨RX6, "common", "(II)I"⟩
abbrev cX6_rightBy : ByteArray := prog_8_method_50_code
def yX6_rightBy : MethodName := ⟨RX6, "rightBy", "(I)I"⟩
abbrev cX6_share : ByteArray := prog_8_method_51_code
def yX6_share : MethodName := ⟨RX6, "share", "(IZ)I"⟩
abbrev cX6_gain : ByteArray := prog_8_method_52_code
def yX6_gain : MethodName := ⟨RX6, "gain", "(IIIII)I"⟩
abbrev cX6_isRest : ByteArray := prog_8_method_53_code
def yX6_isRest : MethodName := ⟨RX6, "isRest", "(IIIII)Z"⟩
abbrev cX6_rests : ByteArray := prog_8_method_54_code
def yX6_rests : MethodName := ⟨RX6, "rests", "(IIII)I"⟩
abbrev cX6_flicker : ByteArray := prog_8_method_55_code
def yX6_flicker : MethodName := ⟨RX6, "flicker", "(IIIZ)I"⟩
abbrev cX6_rightOn : ByteArray := prog_8_method_56_code
def yX6_rightOn : MethodName := ⟨RX6, "rightOn", "(I)I"⟩
abbrev cX6_seed : ByteArray := prog_8_method_57_code
def yX6_seed : MethodName := ⟨RX6, "seed", "(J)J"⟩
abbrev cX6_winters : ByteArray := prog_8_method_58_code
def yX6_winters : MethodName := ⟨RX6, "winters", "(I)I"⟩
abbrev cX6_keep : ByteArray := prog_8_method_59_code
def yX6_keep : MethodName := ⟨RX6, "keep", "(I)I"⟩
abbrev cX6_again : ByteArray := prog_8_method_60_code
def yX6_again : MethodName := ⟨RX6, "again", "(I)I"⟩
abbrev cX6_count : ByteArray := prog_8_method_61_code
def yX6_count : MethodName := ⟨RX6, "count", "(I)I"⟩
def RJ6 : String := "java/lang/Integer"
def TJ6 : u_T := fun k => match k with
  | _ => ("", "", "", false)
def tyJ6 : Nat → FieldType := fun k => match k with
  | _ => .int
theorem nmJ6 : ∀ a, a < 0 → ∀ b, b < 0 → a ≠ b → (TJ6 a).2.1 ≠ (TJ6 b).2.1 := by decide +kernel
theorem tyJ6_ok : ∀ k, k < 0 → parseFieldDescriptor (TJ6 k).2.2.1 = some (tyJ6 k) := by decide +kernel
abbrev cJ6_bitCount_0f7a4 : ByteArray := prog_9_method_49_code
def yJ6_bitCount_0f7a4 : MethodName := ⟨RJ6, "bitCount", "(I)I"⟩
def RJ9 : String := "java/lang/Math"
def TJ9 : u_T := fun k => match k with
  | _ => ("", "", "", false)
def tyJ9 : Nat → FieldType := fun k => match k with
  | _ => .int
theorem nmJ9 : ∀ a, a < 0 → ∀ b, b < 0 → a ≠ b → (TJ9 a).2.1 ≠ (TJ9 b).2.1 := by decide +kernel
theorem tyJ9_ok : ∀ k, k < 0 → parseFieldDescriptor (TJ9 k).2.2.1 = some (tyJ9 k) := by decide +kernel
abbrev cJ9_abs_0f7a4 : ByteArray := prog_10_method_59_code
def yJ9_abs_0f7a4 : MethodName := ⟨RJ9, "abs", "(I)I"⟩
abbrev cJ9_max_7cf53 : ByteArray := prog_10_method_65_code
def yJ9_max_7cf53 : MethodName := ⟨RJ9, "max", "(II)I"⟩
abbrev cJ9_min_7cf53 : ByteArray := prog_10_method_69_code
def yJ9_min_7cf53 : MethodName := ⟨RJ9, "min", "(II)I"⟩
def RL : String := "NewRaysLaw"
abbrev cL_law : ByteArray := code
def yL_law : MethodName := ⟨RL, "law", "([I)Z"⟩
