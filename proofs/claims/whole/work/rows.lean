section
-- ===== PART A: goes FIRST, ahead of the names: the tables' words, and 'selects' of the private methods out of them =====
/-- a private method of a class that the tables say can be made, by its rows of tables_1 -/
def lw_okq (q : MethodName × Nat) : Prop := (q.1.cls ≠ "java/lang/invoke/MethodHandle" ∧ q.1.cls ≠ "java/lang/invoke/VarHandle") ∧ Cond.instantiable q.1.cls q.2 ∈ tables_1 ∧ Cond.privateMethod q.1 ∈ tables_1 ∧ Cond.instanceMethod q.1 ∈ tables_1
theorem lw_p0 : lw_okq (⟨"java/lang/Throwable", "fillInStackTrace", "(I)Ljava/lang/Throwable;"⟩, 6) := ⟨⟨by decide +kernel, by decide +kernel⟩, List.mem_of_getElem? (i := 185) (by decide +kernel), List.mem_of_getElem? (i := 183) (by decide +kernel), List.mem_of_getElem? (i := 184) (by decide +kernel)⟩
theorem lw_p1 : lw_okq (⟨"GlassHarp$Orchestra", "crackedGlasses", "()I"⟩, 15) := ⟨⟨by decide +kernel, by decide +kernel⟩, List.mem_of_getElem? (i := 55) (by decide +kernel), List.mem_of_getElem? (i := 215) (by decide +kernel), List.mem_of_getElem? (i := 216) (by decide +kernel)⟩
theorem lw_p2 : lw_okq (⟨"GlassHarp$Orchestra", "allAir", "()I"⟩, 15) := ⟨⟨by decide +kernel, by decide +kernel⟩, List.mem_of_getElem? (i := 55) (by decide +kernel), List.mem_of_getElem? (i := 219) (by decide +kernel), List.mem_of_getElem? (i := 220) (by decide +kernel)⟩
theorem lw_p3 : lw_okq (⟨"GlassHarp$Orchestra", "pairsBeating", "()I"⟩, 15) := ⟨⟨by decide +kernel, by decide +kernel⟩, List.mem_of_getElem? (i := 55) (by decide +kernel), List.mem_of_getElem? (i := 223) (by decide +kernel), List.mem_of_getElem? (i := 224) (by decide +kernel)⟩
theorem lw_p4 : lw_okq (⟨"GlassHarp$Orchestra", "glassesBeatingAgainst", "(I)I"⟩, 15) := ⟨⟨by decide +kernel, by decide +kernel⟩, List.mem_of_getElem? (i := 55) (by decide +kernel), List.mem_of_getElem? (i := 227) (by decide +kernel), List.mem_of_getElem? (i := 228) (by decide +kernel)⟩
theorem lw_p5 : lw_okq (⟨"GlassHarp$Orchestra", "beatAgainst", "(II)Z"⟩, 15) := ⟨⟨by decide +kernel, by decide +kernel⟩, List.mem_of_getElem? (i := 55) (by decide +kernel), List.mem_of_getElem? (i := 231) (by decide +kernel), List.mem_of_getElem? (i := 232) (by decide +kernel)⟩
theorem lw_p6 : lw_okq (⟨"GlassHarp$Orchestra", "hasGlass", "(I)Z"⟩, 15) := ⟨⟨by decide +kernel, by decide +kernel⟩, List.mem_of_getElem? (i := 55) (by decide +kernel), List.mem_of_getElem? (i := 235) (by decide +kernel), List.mem_of_getElem? (i := 236) (by decide +kernel)⟩
theorem lw_p7 : lw_okq (⟨"GlassHarp$Orchestra", "toneOf", "(I)I"⟩, 15) := ⟨⟨by decide +kernel, by decide +kernel⟩, List.mem_of_getElem? (i := 55) (by decide +kernel), List.mem_of_getElem? (i := 239) (by decide +kernel), List.mem_of_getElem? (i := 240) (by decide +kernel)⟩
theorem lw_p8 : lw_okq (⟨"GlassHarp$Orchestra", "glassesInRow", "(I)I"⟩, 15) := ⟨⟨by decide +kernel, by decide +kernel⟩, List.mem_of_getElem? (i := 55) (by decide +kernel), List.mem_of_getElem? (i := 273) (by decide +kernel), List.mem_of_getElem? (i := 274) (by decide +kernel)⟩
theorem lw_p9 : lw_okq (⟨"GlassHarp$Score", "hasNote", "(I)Z"⟩, 5) := ⟨⟨by decide +kernel, by decide +kernel⟩, List.mem_of_getElem? (i := 23) (by decide +kernel), List.mem_of_getElem? (i := 281) (by decide +kernel), List.mem_of_getElem? (i := 282) (by decide +kernel)⟩
theorem lw_p10 : lw_okq (⟨"GlassHarp$Orchestra", "addGlass", "(III)I"⟩, 15) := ⟨⟨by decide +kernel, by decide +kernel⟩, List.mem_of_getElem? (i := 55) (by decide +kernel), List.mem_of_getElem? (i := 312) (by decide +kernel), List.mem_of_getElem? (i := 313) (by decide +kernel)⟩
theorem lw_p11 : lw_okq (⟨"GlassHarp$Orchestra", "mostDrops", "(I)I"⟩, 15) := ⟨⟨by decide +kernel, by decide +kernel⟩, List.mem_of_getElem? (i := 55) (by decide +kernel), List.mem_of_getElem? (i := 343) (by decide +kernel), List.mem_of_getElem? (i := 344) (by decide +kernel)⟩
theorem lw_p12 : lw_okq (⟨"GlassHarp$Score", "write", "(III)Z"⟩, 5) := ⟨⟨by decide +kernel, by decide +kernel⟩, List.mem_of_getElem? (i := 23) (by decide +kernel), List.mem_of_getElem? (i := 382) (by decide +kernel), List.mem_of_getElem? (i := 383) (by decide +kernel)⟩
theorem lw_p13 : lw_okq (⟨"GlassHarp$Score", "takeOut", "(I)V"⟩, 5) := ⟨⟨by decide +kernel, by decide +kernel⟩, List.mem_of_getElem? (i := 23) (by decide +kernel), List.mem_of_getElem? (i := 395) (by decide +kernel), List.mem_of_getElem? (i := 396) (by decide +kernel)⟩
theorem lw_p14 : lw_okq (⟨"GlassHarp$Orchestra", "letGoBy", "(I)V"⟩, 15) := ⟨⟨by decide +kernel, by decide +kernel⟩, List.mem_of_getElem? (i := 55) (by decide +kernel), List.mem_of_getElem? (i := 412) (by decide +kernel), List.mem_of_getElem? (i := 413) (by decide +kernel)⟩
theorem lw_p15 : lw_okq (⟨"GlassHarp$Orchestra", "fillBellows", "()V"⟩, 15) := ⟨⟨by decide +kernel, by decide +kernel⟩, List.mem_of_getElem? (i := 55) (by decide +kernel), List.mem_of_getElem? (i := 416) (by decide +kernel), List.mem_of_getElem? (i := 417) (by decide +kernel)⟩
def lw_privs_1 : List (MethodName × Nat) := [(⟨"java/lang/Throwable", "fillInStackTrace", "(I)Ljava/lang/Throwable;"⟩, 6), (⟨"GlassHarp$Orchestra", "crackedGlasses", "()I"⟩, 15), (⟨"GlassHarp$Orchestra", "allAir", "()I"⟩, 15), (⟨"GlassHarp$Orchestra", "pairsBeating", "()I"⟩, 15), (⟨"GlassHarp$Orchestra", "glassesBeatingAgainst", "(I)I"⟩, 15), (⟨"GlassHarp$Orchestra", "beatAgainst", "(II)Z"⟩, 15), (⟨"GlassHarp$Orchestra", "hasGlass", "(I)Z"⟩, 15), (⟨"GlassHarp$Orchestra", "toneOf", "(I)I"⟩, 15), (⟨"GlassHarp$Orchestra", "glassesInRow", "(I)I"⟩, 15), (⟨"GlassHarp$Score", "hasNote", "(I)Z"⟩, 5), (⟨"GlassHarp$Orchestra", "addGlass", "(III)I"⟩, 15), (⟨"GlassHarp$Orchestra", "mostDrops", "(I)I"⟩, 15), (⟨"GlassHarp$Score", "write", "(III)Z"⟩, 5), (⟨"GlassHarp$Score", "takeOut", "(I)V"⟩, 5), (⟨"GlassHarp$Orchestra", "letGoBy", "(I)V"⟩, 15), (⟨"GlassHarp$Orchestra", "fillBellows", "()V"⟩, 15)]
theorem lw_r1 : ∀ q ∈ lw_privs_1, lw_okq q := List.forall_mem_cons.mpr ⟨lw_p0, List.forall_mem_cons.mpr ⟨lw_p1, List.forall_mem_cons.mpr ⟨lw_p2, List.forall_mem_cons.mpr ⟨lw_p3, List.forall_mem_cons.mpr ⟨lw_p4, List.forall_mem_cons.mpr ⟨lw_p5, List.forall_mem_cons.mpr ⟨lw_p6, List.forall_mem_cons.mpr ⟨lw_p7, List.forall_mem_cons.mpr ⟨lw_p8, List.forall_mem_cons.mpr ⟨lw_p9, List.forall_mem_cons.mpr ⟨lw_p10, List.forall_mem_cons.mpr ⟨lw_p11, List.forall_mem_cons.mpr ⟨lw_p12, List.forall_mem_cons.mpr ⟨lw_p13, List.forall_mem_cons.mpr ⟨lw_p14, List.forall_mem_cons.mpr ⟨lw_p15, fun _ h => absurd h List.not_mem_nil⟩⟩⟩⟩⟩⟩⟩⟩⟩⟩⟩⟩⟩⟩⟩⟩
theorem lw_p16 : lw_okq (⟨"GlassHarp$Orchestra", "playNotes", "()V"⟩, 15) := ⟨⟨by decide +kernel, by decide +kernel⟩, List.mem_of_getElem? (i := 55) (by decide +kernel), List.mem_of_getElem? (i := 423) (by decide +kernel), List.mem_of_getElem? (i := 424) (by decide +kernel)⟩
theorem lw_p17 : lw_okq (⟨"GlassHarp$Score", "beatAt", "(I)I"⟩, 5) := ⟨⟨by decide +kernel, by decide +kernel⟩, List.mem_of_getElem? (i := 23) (by decide +kernel), List.mem_of_getElem? (i := 427) (by decide +kernel), List.mem_of_getElem? (i := 428) (by decide +kernel)⟩
theorem lw_p18 : lw_okq (⟨"GlassHarp$Orchestra", "playerFor", "(II)I"⟩, 15) := ⟨⟨by decide +kernel, by decide +kernel⟩, List.mem_of_getElem? (i := 55) (by decide +kernel), List.mem_of_getElem? (i := 431) (by decide +kernel), List.mem_of_getElem? (i := 432) (by decide +kernel)⟩
theorem lw_p19 : lw_okq (⟨"GlassHarp$Orchestra", "hasAir", "(II)Z"⟩, 15) := ⟨⟨by decide +kernel, by decide +kernel⟩, List.mem_of_getElem? (i := 55) (by decide +kernel), List.mem_of_getElem? (i := 435) (by decide +kernel), List.mem_of_getElem? (i := 436) (by decide +kernel)⟩
theorem lw_p20 : lw_okq (⟨"GlassHarp$Orchestra", "rub", "(III)V"⟩, 15) := ⟨⟨by decide +kernel, by decide +kernel⟩, List.mem_of_getElem? (i := 55) (by decide +kernel), List.mem_of_getElem? (i := 439) (by decide +kernel), List.mem_of_getElem? (i := 440) (by decide +kernel)⟩
theorem lw_p21 : lw_okq (⟨"GlassHarp$Orchestra", "fadeAndDry", "()V"⟩, 15) := ⟨⟨by decide +kernel, by decide +kernel⟩, List.mem_of_getElem? (i := 55) (by decide +kernel), List.mem_of_getElem? (i := 443) (by decide +kernel), List.mem_of_getElem? (i := 444) (by decide +kernel)⟩
theorem lw_p22 : lw_okq (⟨"GlassHarp$Orchestra", "fewestDropsFor", "(II)I"⟩, 15) := ⟨⟨by decide +kernel, by decide +kernel⟩, List.mem_of_getElem? (i := 55) (by decide +kernel), List.mem_of_getElem? (i := 459) (by decide +kernel), List.mem_of_getElem? (i := 460) (by decide +kernel)⟩
theorem lw_p23 : lw_okq (⟨"GlassHarp$Orchestra", "takeOver", "(LGlassHarp$Orchestra;)V"⟩, 15) := ⟨⟨by decide +kernel, by decide +kernel⟩, List.mem_of_getElem? (i := 55) (by decide +kernel), List.mem_of_getElem? (i := 473) (by decide +kernel), List.mem_of_getElem? (i := 474) (by decide +kernel)⟩
theorem lw_p24 : lw_okq (⟨"GlassHarp$Orchestra", "canBeTuned", "(II)Z"⟩, 15) := ⟨⟨by decide +kernel, by decide +kernel⟩, List.mem_of_getElem? (i := 55) (by decide +kernel), List.mem_of_getElem? (i := 485) (by decide +kernel), List.mem_of_getElem? (i := 486) (by decide +kernel)⟩
theorem lw_p25 : lw_okq (⟨"GlassHarp", "inTuneIfTuned", "(III)I"⟩, 3) := ⟨⟨by decide +kernel, by decide +kernel⟩, List.mem_of_getElem? (i := 15) (by decide +kernel), List.mem_of_getElem? (i := 490) (by decide +kernel), List.mem_of_getElem? (i := 491) (by decide +kernel)⟩
theorem lw_p26 : lw_okq (⟨"GlassHarp$Orchestra", "tuneTo", "(II)V"⟩, 15) := ⟨⟨by decide +kernel, by decide +kernel⟩, List.mem_of_getElem? (i := 55) (by decide +kernel), List.mem_of_getElem? (i := 494) (by decide +kernel), List.mem_of_getElem? (i := 495) (by decide +kernel)⟩
theorem lw_p27 : lw_okq (⟨"GlassHarp", "missedIfPumped", "(III)I"⟩, 3) := ⟨⟨by decide +kernel, by decide +kernel⟩, List.mem_of_getElem? (i := 15) (by decide +kernel), List.mem_of_getElem? (i := 506) (by decide +kernel), List.mem_of_getElem? (i := 507) (by decide +kernel)⟩
theorem lw_p28 : lw_okq (⟨"GlassHarp$Orchestra", "setPump", "(II)V"⟩, 15) := ⟨⟨by decide +kernel, by decide +kernel⟩, List.mem_of_getElem? (i := 55) (by decide +kernel), List.mem_of_getElem? (i := 510) (by decide +kernel), List.mem_of_getElem? (i := 511) (by decide +kernel)⟩
theorem lw_p29 : lw_okq (⟨"GlassHarpModel", "no", "(I)I"⟩, 9) := ⟨⟨by decide +kernel, by decide +kernel⟩, List.mem_of_getElem? (i := 514) (by decide +kernel), List.mem_of_getElem? (i := 621) (by decide +kernel), List.mem_of_getElem? (i := 622) (by decide +kernel)⟩
theorem lw_p30 : lw_okq (⟨"GlassHarpModel", "isGlass", "(I)Z"⟩, 9) := ⟨⟨by decide +kernel, by decide +kernel⟩, List.mem_of_getElem? (i := 514) (by decide +kernel), List.mem_of_getElem? (i := 629) (by decide +kernel), List.mem_of_getElem? (i := 630) (by decide +kernel)⟩
theorem lw_p31 : lw_okq (⟨"GlassHarpModel", "glassTold", "(II)I"⟩, 9) := ⟨⟨by decide +kernel, by decide +kernel⟩, List.mem_of_getElem? (i := 514) (by decide +kernel), List.mem_of_getElem? (i := 646) (by decide +kernel), List.mem_of_getElem? (i := 647) (by decide +kernel)⟩
def lw_privs_2 : List (MethodName × Nat) := [(⟨"GlassHarp$Orchestra", "playNotes", "()V"⟩, 15), (⟨"GlassHarp$Score", "beatAt", "(I)I"⟩, 5), (⟨"GlassHarp$Orchestra", "playerFor", "(II)I"⟩, 15), (⟨"GlassHarp$Orchestra", "hasAir", "(II)Z"⟩, 15), (⟨"GlassHarp$Orchestra", "rub", "(III)V"⟩, 15), (⟨"GlassHarp$Orchestra", "fadeAndDry", "()V"⟩, 15), (⟨"GlassHarp$Orchestra", "fewestDropsFor", "(II)I"⟩, 15), (⟨"GlassHarp$Orchestra", "takeOver", "(LGlassHarp$Orchestra;)V"⟩, 15), (⟨"GlassHarp$Orchestra", "canBeTuned", "(II)Z"⟩, 15), (⟨"GlassHarp", "inTuneIfTuned", "(III)I"⟩, 3), (⟨"GlassHarp$Orchestra", "tuneTo", "(II)V"⟩, 15), (⟨"GlassHarp", "missedIfPumped", "(III)I"⟩, 3), (⟨"GlassHarp$Orchestra", "setPump", "(II)V"⟩, 15), (⟨"GlassHarpModel", "no", "(I)I"⟩, 9), (⟨"GlassHarpModel", "isGlass", "(I)Z"⟩, 9), (⟨"GlassHarpModel", "glassTold", "(II)I"⟩, 9)]
theorem lw_r2 : ∀ q ∈ lw_privs_2, lw_okq q := List.forall_mem_cons.mpr ⟨lw_p16, List.forall_mem_cons.mpr ⟨lw_p17, List.forall_mem_cons.mpr ⟨lw_p18, List.forall_mem_cons.mpr ⟨lw_p19, List.forall_mem_cons.mpr ⟨lw_p20, List.forall_mem_cons.mpr ⟨lw_p21, List.forall_mem_cons.mpr ⟨lw_p22, List.forall_mem_cons.mpr ⟨lw_p23, List.forall_mem_cons.mpr ⟨lw_p24, List.forall_mem_cons.mpr ⟨lw_p25, List.forall_mem_cons.mpr ⟨lw_p26, List.forall_mem_cons.mpr ⟨lw_p27, List.forall_mem_cons.mpr ⟨lw_p28, List.forall_mem_cons.mpr ⟨lw_p29, List.forall_mem_cons.mpr ⟨lw_p30, List.forall_mem_cons.mpr ⟨lw_p31, fun _ h => absurd h List.not_mem_nil⟩⟩⟩⟩⟩⟩⟩⟩⟩⟩⟩⟩⟩⟩⟩⟩
theorem lw_p32 : lw_okq (⟨"GlassHarpModel", "against", "(I)I"⟩, 9) := ⟨⟨by decide +kernel, by decide +kernel⟩, List.mem_of_getElem? (i := 514) (by decide +kernel), List.mem_of_getElem? (i := 650) (by decide +kernel), List.mem_of_getElem? (i := 651) (by decide +kernel)⟩
theorem lw_p33 : lw_okq (⟨"GlassHarpModel", "rowTold", "(II)I"⟩, 9) := ⟨⟨by decide +kernel, by decide +kernel⟩, List.mem_of_getElem? (i := 514) (by decide +kernel), List.mem_of_getElem? (i := 666) (by decide +kernel), List.mem_of_getElem? (i := 667) (by decide +kernel)⟩
theorem lw_p34 : lw_okq (⟨"GlassHarpModel$State", "come", "(II)V"⟩, 12) := ⟨⟨by decide +kernel, by decide +kernel⟩, List.mem_of_getElem? (i := 520) (by decide +kernel), List.mem_of_getElem? (i := 698) (by decide +kernel), List.mem_of_getElem? (i := 699) (by decide +kernel)⟩
theorem lw_p35 : lw_okq (⟨"GlassHarpModel", "counted", "(I)I"⟩, 9) := ⟨⟨by decide +kernel, by decide +kernel⟩, List.mem_of_getElem? (i := 514) (by decide +kernel), List.mem_of_getElem? (i := 710) (by decide +kernel), List.mem_of_getElem? (i := 711) (by decide +kernel)⟩
theorem lw_p36 : lw_okq (⟨"GlassHarpModel", "needed", "(II)I"⟩, 9) := ⟨⟨by decide +kernel, by decide +kernel⟩, List.mem_of_getElem? (i := 514) (by decide +kernel), List.mem_of_getElem? (i := 722) (by decide +kernel), List.mem_of_getElem? (i := 723) (by decide +kernel)⟩
theorem lw_p37 : lw_okq (⟨"GlassHarpModel$State", "copy", "([I[I)V"⟩, 12) := ⟨⟨by decide +kernel, by decide +kernel⟩, List.mem_of_getElem? (i := 520) (by decide +kernel), List.mem_of_getElem? (i := 734) (by decide +kernel), List.mem_of_getElem? (i := 735) (by decide +kernel)⟩
theorem lw_p38 : lw_okq (⟨"GlassHarpModel", "run", "(I)V"⟩, 9) := ⟨⟨by decide +kernel, by decide +kernel⟩, List.mem_of_getElem? (i := 514) (by decide +kernel), List.mem_of_getElem? (i := 739) (by decide +kernel), List.mem_of_getElem? (i := 740) (by decide +kernel)⟩
theorem lw_p39 : lw_okq (⟨"GlassHarpModel", "missedWith", "(III)I"⟩, 9) := ⟨⟨by decide +kernel, by decide +kernel⟩, List.mem_of_getElem? (i := 514) (by decide +kernel), List.mem_of_getElem? (i := 751) (by decide +kernel), List.mem_of_getElem? (i := 752) (by decide +kernel)⟩
def lw_privs_3 : List (MethodName × Nat) := [(⟨"GlassHarpModel", "against", "(I)I"⟩, 9), (⟨"GlassHarpModel", "rowTold", "(II)I"⟩, 9), (⟨"GlassHarpModel$State", "come", "(II)V"⟩, 12), (⟨"GlassHarpModel", "counted", "(I)I"⟩, 9), (⟨"GlassHarpModel", "needed", "(II)I"⟩, 9), (⟨"GlassHarpModel$State", "copy", "([I[I)V"⟩, 12), (⟨"GlassHarpModel", "run", "(I)V"⟩, 9), (⟨"GlassHarpModel", "missedWith", "(III)I"⟩, 9)]
theorem lw_r3 : ∀ q ∈ lw_privs_3, lw_okq q := List.forall_mem_cons.mpr ⟨lw_p32, List.forall_mem_cons.mpr ⟨lw_p33, List.forall_mem_cons.mpr ⟨lw_p34, List.forall_mem_cons.mpr ⟨lw_p35, List.forall_mem_cons.mpr ⟨lw_p36, List.forall_mem_cons.mpr ⟨lw_p37, List.forall_mem_cons.mpr ⟨lw_p38, List.forall_mem_cons.mpr ⟨lw_p39, fun _ h => absurd h List.not_mem_nil⟩⟩⟩⟩⟩⟩⟩⟩
def lw_privs : List (MethodName × Nat) := lw_privs_1 ++ (lw_privs_2 ++ (lw_privs_3))
def lw_tbl : List Cond := k2_sels lw_privs ++ tables_1
theorem lw_privs_ok : ∀ q ∈ lw_privs, lw_okq q := by
  show ∀ q ∈ lw_privs_1 ++ (lw_privs_2 ++ (lw_privs_3)), lw_okq q
  exact List.forall_mem_append.mpr ⟨lw_r1, List.forall_mem_append.mpr ⟨lw_r2, lw_r3⟩⟩
/-- the streams that the claim lets the run draw from -/
abbrev lw_cs : List Choice := [Jvm.Choice.named "NaN.bits"]
theorem lw_bits : nanBits ∈ lw_cs := by first | decide | exact List.mem_cons_self | simp [lw_cs, nanBits]
-- ===== end of PART A; then your names; then what follows =====
end
section
/-! ===== BEGIN words of one list among another's, by their places ===== -/
theorem goodIn_r {big : List Cond} (ws : List Cond) (ps : List Nat) (hp : ws = ps.filterMap (fun i => big[i]?)) (h : ws.all goodWord = true) : GoodIn big ws := by
  intro w hw
  have h1 := List.all_eq_true.mp h w hw
  rw [hp] at hw
  obtain ⟨i, -, hi⟩ := List.mem_filterMap.mp hw
  have hm : w ∈ big := by first | exact List.mem_of_getElem? hi | exact List.getElem?_mem hi
  exact ⟨hm, good_of_word h1⟩
theorem goodIn_app {big a b : List Cond} (ha : GoodIn big a) (hb : GoodIn big b) : GoodIn big (a ++ b) := fun w h => (List.mem_append.mp h).elim (ha w) (hb w)
theorem goodIn_ca {big a b : List Cond} {c : Cond} (ha : GoodIn big (c :: a)) (hb : GoodIn big b) : GoodIn big (c :: (a ++ b)) := fun w h => (List.mem_cons.mp h).elim (fun e => ha w (List.mem_cons.mpr (Or.inl e))) (fun h => (List.mem_append.mp h).elim (fun h => ha w (List.mem_cons.mpr (Or.inr h))) (hb w))
theorem goodIn_sub {big ws : List Cond} (hm : ∀ w ∈ ws, w ∈ big) (h : ws.all goodWord = true) : GoodIn big ws := fun w hw => ⟨hm w hw, good_of_word (List.all_eq_true.mp h w hw)⟩
/-! ===== END ===== -/

/-! ===== BEGIN exceptions that leave a method, and their catching by the caller (launches without stack traces) ===== -/
section VXA
/-! The laws vx_back, vx_callV, vx_callS, vx_callSW, vx_throw0, vx_throwS follow proofs of the library, with one case more: JvmDerived/Free/Laws.lean (Back.of_free), Shelf42/LK1.lean (callV, callS), Shelf/KitTraced.lean (throwNew0V, throwNewS). -/
/-- where a method has thrown q: the class by its name, the cell, what was written, the world -/
def vx_T (XC : String → State → State → Prop) (st : State) (q : Addr) (t : State) (mc ms : Nat) (free : Addr → Prop) : Prop :=
  ∃ (E : String) (ce : Cell) (L : List Loc), XC E st t ∧ t.heap[q]? = some ce ∧ ce.vm = .none ∧ st.vm.findClass E = some ce.cls ∧ st.WarmedH t.vm ∧ st.sameButNew ({ t with vm := st.vm } : State) L mc ms ∧ ∀ z ∈ L, free z.base
def vx_Q (Qc : Array Value → State → Outcome → State → Prop) (XC : String → State → State → Prop) (mc ms : Nat) (free : Addr → Prop) : Array Value → State → Outcome → State → Prop := fun a st o t =>
  (Qc a st o t ∧ ∃ L, FrameEnd st o t L mc ms ∧ ∀ q ∈ L, free q.base) ∨ ∃ q, o = .threw q ∧ vx_T XC st q t mc ms free
/-- a callee that returns or throws -/
def vx_Met (l : Launch) (y : MethodName) (ws : List Cond) (rm : Room) (Pc : Array Value → State → Prop) (Qc : Array Value → State → Outcome → State → Prop) (XC : String → State → State → Prop) (mc ms : Nat) (free : Addr → Prop) : Prop :=
  MetFree l y (headSpec ws rm) Pc (fun _ _ _ _ _ => True) (vx_Q Qc XC mc ms free)
def vx_Post (XC : String → State → State → Prop) (mc ms : Nat) (free : Addr → Prop) : Pt → Array Value → Addr → Pt → Prop := fun A a q B =>
  ∃ (g : JFrame) (mk : MethodId) (t : State) (L : List Loc) (E : String) (ce : Cell), B.U.heap = t.heap ∧ B.U.vm = t.vm ∧ XC E (A.U.calling g mk a) t ∧ t.heap[q]? = some ce ∧ ce.vm = .none ∧ A.U.vm.findClass E = some ce.cls ∧ B.locs = A.locs ++ L ∧ (∀ z ∈ L, free z.base) ∧ B.cells = A.cells + mc ∧ B.slots = A.slots + ms
def vx_Back (l : Launch) (R : Room) (p : Program) (e : Env) (below : List Frame) (s : State) (sargs : Array Value) (y : MethodName) (len W9 : Nat)
    (Pre : Pt → Array Value → Prop) (Post : Pt → Array Value → Option Value → Pt → Prop) (PostX : Pt → Array Value → Addr → Pt → Prop) : Prop :=
  ∀ (m : MethodId) (meth : Method) (c : Code) (A : Pt) (g : JFrame) (ig : Instr) (mk : MethodId) (a : Array Value),
    Stand p l e R s m sargs below meth c A.U A.locs A.cells A.slots → g.method = m → g.locals.size = c.maxLocals → decode c.code g.pc = .ok (ig, len) →
    2 * g.monitorRoom + (g.stack.map fun v => v.category).sum ≤ W9 → A.U.methodNamed? y = some mk → Pre A a →
    (∃ (v : Option Value) (B : Pt), Stand p l e R s m sargs below meth c B.U B.locs B.cells B.slots ∧ Post A a v B ∧
      Steps p.tables e below (doInvoke e (A.U.setTop g) [] mk a).1 (B.U.setTop { g with pc := g.pc + len, stack := v.toList ++ g.stack })) ∨
    (∃ (q : Addr) (B : Pt), Stand p l e R s m sargs below meth c B.U B.locs B.cells B.slots ∧ PostX A a q B ∧
      Steps p.tables e below (doInvoke e (A.U.setTop g) [] mk a).1 ((B.U.setTop g).pushFrame (.throwing q)))
section Payer
variable {l : Launch} {R : Room} {p : Program} {e : Env} {below : List Frame} {s : State} {sargs : Array Value} {y : MethodName} {len W9 : Nat}
theorem vx_back {ws : List Cond} {rm : Room} {Pc : Array Value → State → Prop} {Qc : Array Value → State → Outcome → State → Prop} {XC : String → State → State → Prop} {mc ms : Nat} {free : Addr → Prop} {bytes : ByteArray} {maxL : Nat} {ret : Option FieldType}
    (hM : vx_Met l y ws rm Pc Qc XC mc ms free) (hblind : FrameBlind Pc) (hrc : rm.cells = mc) (hrs : rm.slots = ms)
    (hframes : rm.frames + 1 ≤ R.frames) (hlocals : W9 + (maxL + 11) + rm.locals ≤ R.locals)
    (hws : ∀ w ∈ ws, ∀ a' U, s.WarmedH U.vm → w.before a' U = true) (hcode : Cond.code y bytes maxL ret ∈ ws) (hinit : ∀ a' U, s.WarmedH U.vm → (Cond.initialized y.cls).before a' U = true) :
    vx_Back l R p e below s sargs y len W9 (PreOf R mc ms Pc) (PostOf Qc mc ms free) (vx_Post XC mc ms free) := by
  intro m meth c A g ig mk a X hg hsize hdg hW hn hp
  have h1 : (headSpec ws rm).pre.before a A.U = true := atoms_intro fun w hw => hws w hw _ _ X.warmed
  have h2 : (Cond.code y bytes maxL ret).before a A.U = true := hws _ hcode _ _ X.warmed
  have h3 : (Cond.initialized y.cls).before a A.U = true := hinit _ _ X.warmed
  have h4 : A.cells + (headSpec ws rm).room.cells ≤ R.cells := by rw [show (headSpec ws rm).room.cells = mc from hrc]; exact hp.1
  have h5 : A.slots + (headSpec ws rm).room.slots ≤ R.slots := by rw [show (headSpec ws rm).room.slots = ms from hrs]; exact hp.2.1
  have hPc : Pc a (A.U.calling g mk a) := hblind _ _ _ _ hp.2.2
  obtain ⟨U, Ls, c0, s0⟩ := A
  dsimp only [Pt.U, Pt.locs, Pt.cells, Pt.slots] at h1 h2 h3 h4 h5 X hn hPc ⊢
  obtain ⟨methY, cY, hmY, hcY, -, hlY, -, -, -, -⟩ := Cond.code_spec hn h2
  obtain ⟨kY, hkY, -⟩ := className_of_methodNamed hn
  have hinitY : kY.init = .initialized := Cond.initialized_spec (findClass_of_methodNamed hn) hkY h3
  have h : At U g.method c below := by rw [hg]; exact X.here
  have hlocals9 : W9 + (maxL + 11) + (headSpec ws rm).room.locals ≤ R.locals := hlocals
  have happ : (headSpec ws rm).appliesLoose y e.platform (U.calling g mk a) = true :=
    Spec.appliesLoose_calling (g := g) h hdg hn hkY hinitY
      (X.room_calling (g := g) (R' := (headSpec ws rm).room) hsize hmY hcY hframes (by rw [hlY]; omega) h4 h5) h1
  obtain ⟨mid, hmid⟩ := h.above
  have hfr : (U.setTop g).frames = (.java g :: mid) ++ below := by rw [State.frames_setTop' g h.top, hmid]; rfl
  obtain ⟨o, s₂, hsteps, -, hend, hq⟩ := Steps.callFree hM p X.admits X.cas X.clock (acts := []) hfr happ hPc trivial
  have hq' : vx_Q Qc XC mc ms free a (U.calling g mk a) o s₂ := hq
  rw [State.frames_setTop' g h.top] at hend
  obtain ⟨g₀, hg0⟩ := Option.isSome_iff_exists.mp h.top
  obtain ⟨r, hr⟩ := State.topJava?_eq_some.mp hg0
  have hr' : (({ U with heap := s₂.heap, slotsUsed := s₂.slotsUsed } : State).setVm s₂.vm).frames = .java g₀ :: r := hr
  rcases hq' with ⟨hqc, L, hfe, hL⟩ | ⟨q, rfl, E, ce, L, hx, hce, hcv, hcl, hW₂, hsm, hL⟩
  · obtain ⟨⟨v, rfl⟩, hW₂, e2, q2, q3, q4, q5, q6⟩ := id hfe
    have e3 : s₂ = ({ (U.calling g mk a).setFrames s₂.frames with heap := s₂.heap, slotsUsed := s₂.slotsUsed } : State).setVm s₂.vm := by
      have : s₂ = ({ s₂ with vm := (U.calling g mk a).vm } : State).setVm s₂.vm := rfl
      rw [e2] at this
      exact this
    obtain ⟨c₂, i₂, len₂, hc₂, hd₂, hf₂⟩ := hend
    have hW' : U.WarmedH s₂.vm := hW₂
    have hcc : c₂ = c := by
      have h1 : s₂.code? g.method = U.code? g.method := by
        rw [State.code?_eq, State.code?_eq, hW'.alike.method?]
      exact Option.some.inj (hc₂.symm.trans (h1.trans h.code))
    subst hcc
    have hlen : len₂ = len := by rw [hdg] at hd₂; cases hd₂; rfl
    subst hlen
    have hs₂ : s₂ = (({ U with heap := s₂.heap, slotsUsed := s₂.slotsUsed } : State).setVm s₂.vm).setTop { g with pc := g.pc + len₂, stack := v.toList ++ g.stack } := by
      refine e3.trans ?_
      rw [hf₂, State.calling_eq h.top, State.setFrames_setFrames, State.setTop_of_frames _ hr', hr]
      rfl
    have hsame : U.sameButNew ({ U with heap := s₂.heap, slotsUsed := s₂.slotsUsed } : State) L mc ms := by
      refine ⟨?_, q2, q3, q4, q5, q6⟩
      obtain ⟨t, ht, -⟩ := State.frames_cons hr
      show ({ U with heap := s₂.heap, slotsUsed := s₂.slotsUsed } : State) = { U.setFrames U.frames with heap := s₂.heap, slotsUsed := s₂.slotsUsed }
      rw [State.setFrames_self ht]
    subst hg
    refine Or.inl ⟨v, ⟨(({ U with heap := s₂.heap, slotsUsed := s₂.slotsUsed } : State).setVm s₂.vm), Ls ++ L, c0 + mc, s0 + ms⟩,
      ⟨X.admits, X.cas, X.clock, X.frames, X.room, X.hears, X.method, X.code, (X.here.setHeapUsed s₂.heap s₂.slotsUsed).setVm hW'.alike, X.tail, State.WarmedH.trans X.warmed hW', X.limits, X.bytes, X.same.trans (hsame.setVm s.vm)⟩,
      ⟨g, mk, s₂, L, rfl, rfl, hqc, rfl, hL, rfl, rfl⟩, ?_⟩
    show Steps p.tables e below _ ((({ U with heap := s₂.heap, slotsUsed := s₂.slotsUsed } : State).setVm s₂.vm).setTop { g with pc := g.pc + len₂, stack := v.toList ++ g.stack })
    rw [← hs₂]
    exact hsteps
  · obtain ⟨e2, q2, q3, q4, q5, q6⟩ := id hsm
    have e3 : s₂ = ({ (U.calling g mk a).setFrames s₂.frames with heap := s₂.heap, slotsUsed := s₂.slotsUsed } : State).setVm s₂.vm := by
      have : s₂ = ({ s₂ with vm := (U.calling g mk a).vm } : State).setVm s₂.vm := rfl
      rw [e2] at this
      exact this
    have hf₂ : s₂.frames = .throwing q :: .java g :: U.frames.tail := hend
    have hW' : U.WarmedH s₂.vm := hW₂
    have hs₂ : s₂ = ((({ U with heap := s₂.heap, slotsUsed := s₂.slotsUsed } : State).setVm s₂.vm).setTop g).pushFrame (.throwing q) := by
      refine e3.trans ?_
      rw [hf₂, State.calling_eq h.top, State.setFrames_setFrames, State.pushFrame, State.frames_setTop _ hr', State.setTop_of_frames _ hr', State.setFrames_setFrames, hr]
      rfl
    have hsame : U.sameButNew ({ U with heap := s₂.heap, slotsUsed := s₂.slotsUsed } : State) L mc ms := by
      refine ⟨?_, q2, q3, q4, q5, q6⟩
      obtain ⟨t, ht, -⟩ := State.frames_cons hr
      show ({ U with heap := s₂.heap, slotsUsed := s₂.slotsUsed } : State) = { U.setFrames U.frames with heap := s₂.heap, slotsUsed := s₂.slotsUsed }
      rw [State.setFrames_self ht]
    subst hg
    refine Or.inr ⟨q, ⟨(({ U with heap := s₂.heap, slotsUsed := s₂.slotsUsed } : State).setVm s₂.vm), Ls ++ L, c0 + mc, s0 + ms⟩,
      ⟨X.admits, X.cas, X.clock, X.frames, X.room, X.hears, X.method, X.code, (X.here.setHeapUsed s₂.heap s₂.slotsUsed).setVm hW'.alike, X.tail, State.WarmedH.trans X.warmed hW', X.limits, X.bytes, X.same.trans (hsame.setVm s.vm)⟩,
      ⟨g, mk, s₂, L, E, ce, rfl, rfl, hx, hce, hcv, hcl, rfl, hL, rfl, rfl⟩, ?_⟩
    show Steps p.tables e below _ (((({ U with heap := s₂.heap, slotsUsed := s₂.slotsUsed } : State).setVm s₂.vm).setTop g).pushFrame (.throwing q))
    rw [← hs₂]
    exact hsteps
end Payer
section Calls
variable {p : Program} {l : Launch} {e : Env} {R : Room} {s : State} {m : MethodId} {args : Array Value} {below : List Frame} {meth : Method} {c : Code} {T : State} {locs : List Loc} {cells slots : Nat}
theorem vx_callV (X : Stand p l e R s m args below meth c T locs cells slots) (hexec : p.tables.exec = Jvm.exec) {own C : String} {index : Nat} {y : MethodName} {bytes : ByteArray} {maxL : Nat} {ret : Option FieldType}
    (hown : s.vm.findClass own = some m.cls) (hlink : (Cond.methodLink own index y).before args s = true) (hinst : (Cond.instanceMethod y).before args s = true) (hsel : (Cond.selects C y y).before args s = true)
    (hcode : (Cond.code y bytes maxL ret).before args s = true) (hy : y.cls ≠ "java/lang/invoke/MethodHandle" ∧ y.cls ≠ "java/lang/invoke/VarHandle")
    {W9 : Nat} {Pre : Pt → Array Value → Prop} {Post : Pt → Array Value → Option Value → Pt → Prop} {PostX : Pt → Array Value → Addr → Pt → Prop} (hK : vx_Back l R p e below s args y 3 W9 Pre Post PostX)
    {b : Addr} {cellB : Cell} (hcell : T.heap[b]? = some cellB) (hobj : cellB.vm.isStatics = false) (hcls : s.vm.findClass C = some cellB.cls)
    {g : JFrame} (hg : g.method = m) (hsize : g.locals.size = c.maxLocals) {argsL rest : List Value} (hlen : ∀ sig, parseMethodDescriptor y.desc = some sig → argsL.length = sig.parameters.length)
    (hstack : g.stack = argsL.reverse ++ .ref b :: rest) (hW : 2 * g.monitorRoom + (rest.map fun v => v.category).sum ≤ W9) (hdg : decode c.code g.pc = .ok (.invokevirtual index, 3))
    (hpre : ∀ vm₁, s.WarmedH vm₁ → Pre ⟨T.setVm vm₁, locs, cells, slots⟩ (Value.ref b :: argsL).toArray) :
    (∃ (v : Option Value) (vm₁ : Vm) (B : Pt), s.WarmedH vm₁ ∧ Stand p l e R s m args below meth c B.U B.locs B.cells B.slots ∧ Post ⟨T.setVm vm₁, locs, cells, slots⟩ (Value.ref b :: argsL).toArray v B ∧
      ∀ target, Steps p.tables e below (B.U.setTop { g with pc := g.pc + 3, stack := v.toList ++ rest }) target → Steps p.tables e below (T.setTop g) target) ∨
    (∃ (q : Addr) (vm₁ : Vm) (B : Pt), s.WarmedH vm₁ ∧ Stand p l e R s m args below meth c B.U B.locs B.cells B.slots ∧ PostX ⟨T.setVm vm₁, locs, cells, slots⟩ (Value.ref b :: argsL).toArray q B ∧
      Steps p.tables e below (T.setTop g) ((B.U.setTop { g with stack := rest }).pushFrame (.throwing q))) := by
  obtain ⟨mk, methM, hnamed, hmethM, hstM, habM⟩ := Cond.instanceMethod_spec hinst
  obtain ⟨methM', cM, hmethM', -, -, -, -, -, -, hsigM⟩ := Cond.code_spec hnamed hcode
  cases hmethM.symm.trans hmethM'
  obtain ⟨c2, r2, m2, q1, q2, q3, q4, kP, hkP, hkPi⟩ := Cond.selects_spec hsel
  cases hcls.symm.trans q1
  cases (State.methodFound?_of_named hnamed hy).symm.trans q2
  cases hnamed.symm.trans q3
  have hselP : selectMethod e.platform s.vm cellB.cls mk = .method mk := by rw [Launch.admits_selectMethod X.admits]; exact q4
  obtain ⟨vm₁, X₁, hstep₁⟩ := X.invokevirtual hexec hown hlink hnamed hmethM hstM hkP hkPi hy (a := b) (cell := cellB) hcell
    (fun z h => by rw [h] at hobj; cases hobj) hselP hmethM habM hkP hkPi (g := g) hg (argsL := argsL) (rest := rest) (hlen _ hsigM) hstack hdg
  rcases hK m meth c ⟨T.setVm vm₁, locs, cells, slots⟩ { g with stack := rest } (.invokevirtual index) mk (Value.ref b :: argsL).toArray X₁ hg hsize hdg hW (X₁.named hnamed) (hpre vm₁ X₁.warmed) with ⟨v, B, X', hpost, hsteps⟩ | ⟨q, B, X', hpost, hsteps⟩
  · exact Or.inl ⟨v, vm₁, B, X₁.warmed, X', hpost, fun target h => hstep₁ _ fun acts => by rw [doInvoke_state]; exact hsteps.trans h⟩
  · exact Or.inr ⟨q, vm₁, B, X₁.warmed, X', hpost, hstep₁ _ fun acts => by rw [doInvoke_state]; exact hsteps⟩
theorem vx_callS (X : Stand p l e R s m args below meth c T locs cells slots) (hexec : p.tables.exec = Jvm.exec) {own : String} {index : Nat} {y : MethodName} {bytes : ByteArray} {maxL : Nat} {ret : Option FieldType}
    (hown : s.vm.findClass own = some m.cls) (hlink : (Cond.methodLink own index y).before args s = true) (hstat : (Cond.static y).before args s = true) (hinit : (Cond.initialized y.cls).before args s = true)
    (hcode : (Cond.code y bytes maxL ret).before args s = true) (hy : y.cls ≠ "java/lang/invoke/MethodHandle" ∧ y.cls ≠ "java/lang/invoke/VarHandle")
    {W9 : Nat} {Pre : Pt → Array Value → Prop} {Post : Pt → Array Value → Option Value → Pt → Prop} {PostX : Pt → Array Value → Addr → Pt → Prop} (hK : vx_Back l R p e below s args y 3 W9 Pre Post PostX)
    {g : JFrame} (hg : g.method = m) (hsize : g.locals.size = c.maxLocals) {argsL rest : List Value} (hlen : ∀ sig, parseMethodDescriptor y.desc = some sig → argsL.length = sig.parameters.length)
    (hstack : g.stack = argsL.reverse ++ rest) (hW : 2 * g.monitorRoom + (rest.map fun v => v.category).sum ≤ W9) (hdg : decode c.code g.pc = .ok (.invokestatic index, 3))
    (hpre : ∀ vm₁, s.WarmedH vm₁ → Pre ⟨T.setVm vm₁, locs, cells, slots⟩ argsL.toArray) :
    (∃ (v : Option Value) (vm₁ : Vm) (B : Pt), s.WarmedH vm₁ ∧ Stand p l e R s m args below meth c B.U B.locs B.cells B.slots ∧ Post ⟨T.setVm vm₁, locs, cells, slots⟩ argsL.toArray v B ∧
      ∀ target, Steps p.tables e below (B.U.setTop { g with pc := g.pc + 3, stack := v.toList ++ rest }) target → Steps p.tables e below (T.setTop g) target) ∨
    (∃ (q : Addr) (vm₁ : Vm) (B : Pt), s.WarmedH vm₁ ∧ Stand p l e R s m args below meth c B.U B.locs B.cells B.slots ∧ PostX ⟨T.setVm vm₁, locs, cells, slots⟩ argsL.toArray q B ∧
      Steps p.tables e below (T.setTop g) ((B.U.setTop { g with stack := rest }).pushFrame (.throwing q))) := by
  obtain ⟨mk, hnamed⟩ := Cond.code_named hcode
  obtain ⟨methM, cM, hmethM, -, -, -, -, -, -, hsigM⟩ := Cond.code_spec hnamed hcode
  have hstatic : methM.isStatic = true := Cond.static_spec hnamed hmethM hstat
  obtain ⟨kP, hkP, -⟩ := className_of_methodNamed hnamed
  have hinitP : kP.init = .initialized := Cond.initialized_spec (findClass_of_methodNamed hnamed) hkP hinit
  obtain ⟨vm₁, X₁, hstep₁⟩ := X.invokestatic hexec hown hlink hnamed hmethM hstatic hkP hinitP hy (g := g) hg (argsL := argsL) (rest := rest) (hlen _ hsigM) hstack hdg
  rcases hK m meth c ⟨T.setVm vm₁, locs, cells, slots⟩ { g with stack := rest } (.invokestatic index) mk argsL.toArray X₁ hg hsize hdg hW (X₁.named hnamed) (hpre vm₁ X₁.warmed) with ⟨v, B, X', hpost, hsteps⟩ | ⟨q, B, X', hpost, hsteps⟩
  · exact Or.inl ⟨v, vm₁, B, X₁.warmed, X', hpost, fun target h => hstep₁ _ fun acts => by rw [doInvoke_state]; exact hsteps.trans h⟩
  · exact Or.inr ⟨q, vm₁, B, X₁.warmed, X', hpost, hstep₁ _ fun acts => by rw [doInvoke_state]; exact hsteps⟩
end Calls
theorem vx_cls {s : State} {T : State} {vm₁ : Vm} {E : String} {k : ClassId} (hW : s.WarmedH vm₁) (h : (T.setVm vm₁).vm.findClass E = some k) : s.vm.findClass E = some k := by
  have h1 : vm₁.findClass E = some k := h
  rw [hW.alike.findClass] at h1
  exact h1
/-- the method's frame g, with q thrown over it -/
def vx_W (p : Program) (l : Launch) (e : Env) (R : Room) (s : State) (m : MethodId) (args : Array Value) (below : List Frame) (meth : Method) (c : Code) (H : Heap) (locs : List Loc) (cells slots : Nat) (Q : State → Prop) (g : JFrame) (q : Addr) : Prop :=
  ∀ T : State, T.heap = H → Stand p l e R s m args below meth c T locs cells slots → ∃ t, Steps p.tables e below ((T.setTop g).pushFrame (.throwing q)) t ∧ Q t
def vx_Run (p : Program) (l : Launch) (e : Env) (R : Room) (s : State) (m : MethodId) (args : Array Value) (below : List Frame) (meth : Method) (c : Code) (H : Heap) (locs : List Loc) (cells slots mc ms : Nat) (g : JFrame) (rest : List Value) (Qa : State → Outcome → State → Prop) (XC : String → State → State → Prop) (free : Addr → Prop) : Prop :=
  ∀ T : State, T.heap = H → Stand p l e R s m args below meth c T locs cells slots →
    (∃ (v : Option Value) (st₀ t T' : State) (L : List Loc), st₀.heap = H ∧ Stand p l e R s m args below meth c T' (locs ++ L) (cells + mc) (slots + ms) ∧ (∀ q ∈ L, free q.base) ∧ T'.heap = t.heap ∧ T'.vm = t.vm ∧ Qa st₀ (.returned v) t ∧
      Goes p e below T g T' { g with pc := g.pc + 3, stack := v.toList ++ rest }) ∨
    (∃ (q : Addr) (st₀ t T' : State) (L : List Loc) (E : String) (ce : Cell), st₀.heap = H ∧ Stand p l e R s m args below meth c T' (locs ++ L) (cells + mc) (slots + ms) ∧ (∀ z ∈ L, free z.base) ∧ T'.heap = t.heap ∧ T'.vm = t.vm ∧ XC E st₀ t ∧ t.heap[q]? = some ce ∧ ce.vm = .none ∧ s.vm.findClass E = some ce.cls ∧
      Steps p.tables e below (T.setTop g) ((T'.setTop { g with stack := rest }).pushFrame (.throwing q)))
def vx_X {S : Type} (px : S → Prop) (B : String → S → State → Prop) (A : Nat → Prop) : String → State → State → Prop := fun E st t => ∃ u : S, px u ∧ B E u t ∧ va_F A st t
section Runs
variable {p : Program} {l : Launch} {e : Env} {R : Room} {s : State} {m : MethodId} {args : Array Value} {below : List Frame} {meth : Method} {c : Code} {H : Heap} {locs : List Loc} {cells slots : Nat}
variable {y : MethodName} {bytes cc : ByteArray} {maxL nL mc ms n index : Nat} {ret : Option FieldType} {ws : List Cond} {rm : Room} {Pc : Array Value → State → Prop} {Qc : Array Value → State → Outcome → State → Prop} {XC : String → State → State → Prop} {free : Addr → Prop} {Ts : List Cond} {own C : String} {b : Addr} {As rest : List Value} {g : JFrame}
theorem vx_callBack (cb : CallB R s args own index y bytes maxL ret ws rm mc ms n) (hM : vx_Met l y ws rm Pc Qc XC mc ms free) (hbl : FrameBlind Pc) : vx_Back l R p e below s args y 3 8 (PreOf R mc ms Pc) (PostOf Qc mc ms free) (vx_Post XC mc ms free) := by
  obtain ⟨hrc, hrs, hfr, hlo, hws, hcw, -, hini, -⟩ := cb
  exact vx_back (bytes := bytes) (maxL := maxL) (ret := ret) hM hbl hrc hrs hfr hlo hws hcw (fun a' U hW => word_at hW (Or.inl (by first | rfl | simp [Cond.onTables, Cond.keeps, Cond.steady])) hini)
theorem vx_runV (S : CallFix p m c cc nL s args Ts own) (hM : vx_Met l y ws rm Pc Qc XC mc ms free) (cw : CallW R s args own C index y bytes maxL ret ws rm mc ms n) (hp : PreV s H C b Pc As)
    (hg : g.method = m) (hn : As.length = n) (hsize : g.locals.size = nL) (hstack : g.stack = As.reverse ++ .ref b :: rest) (hW : 2 * g.monitorRoom + (rest.map fun v => v.category).sum ≤ 8) (hdg : decode cc g.pc = .ok (.invokevirtual index, 3)) (hf : cells + mc ≤ R.cells ∧ slots + ms ≤ R.slots) :
    vx_Run p l e R s m args below meth c H locs cells slots mc ms g rest (Qc (Value.ref b :: As).toArray) XC free := by
  have hK : vx_Back l R p e below s args y 3 8 (PreOf R mc ms Pc) (PostOf Qc mc ms free) (vx_Post XC mc ms free) := vx_callBack cw.1 hM hp.1
  obtain ⟨⟨-, -, -, -, -, -, hcode, -, hy, hlen, hl⟩, hin, hse⟩ := cw
  obtain ⟨hx, hb, hml, ho, -⟩ := S
  obtain ⟨-, ⟨cellB, hcB, hoB, hclB⟩, hPc⟩ := hp
  intro T hT X
  rcases vx_callV X hx (C := C) (bytes := bytes) (maxL := maxL) (ret := ret) ho hl hin hse hcode hy hK (by rw [hT]; exact hcB) hoB hclB hg (hsize.trans hml.symm) (argsL := As) (rest := rest) (fun sig h => hn.trans (hlen sig h)) hstack hW (by rw [hb]; exact hdg)
    (fun vm₁ hW₁ => ⟨hf.1, hf.2, hPc (T.setVm vm₁) hT hW₁⟩) with ⟨v, vm₁, ⟨U', l2, c2, s2⟩, hW₁, X', ⟨g', mk, t, L, e1, e2, hq, h1, hL, h2, h3⟩, st⟩ | ⟨q, vm₁, ⟨U', l2, c2, s2⟩, hW₁, X', ⟨g', mk, t, L, E, ce, e1, e2, hq, hce, hcv, hcl, h1, hL, h2, h3⟩, st⟩
  · dsimp only [Pt.U, Pt.locs, Pt.cells, Pt.slots] at X' e1 e2 h1 h2 h3 st
    subst h1; subst h2; subst h3
    exact Or.inl ⟨v, (T.setVm vm₁).calling g' mk (Value.ref b :: As).toArray, t, U', L, hT, X', hL, e1, e2, hq, st⟩
  · dsimp only [Pt.U, Pt.locs, Pt.cells, Pt.slots] at X' e1 e2 h1 h2 h3 st hcl
    subst h1; subst h2; subst h3
    exact Or.inr ⟨q, (T.setVm vm₁).calling g' mk (Value.ref b :: As).toArray, t, U', L, E, ce, hT, X', hL, e1, e2, hq, hce, hcv, vx_cls hW₁ hcl, st⟩
theorem vx_runS (S : CallFix p m c cc nL s args Ts own) (hM : vx_Met l y ws rm Pc Qc XC mc ms free) (cw : CallB R s args own index y bytes maxL ret ws rm mc ms n ∧ (Cond.static y).before args s = true) (hp : PreS s H Pc As)
    (hg : g.method = m) (hn : As.length = n) (hsize : g.locals.size = nL) (hstack : g.stack = As.reverse ++ rest) (hW : 2 * g.monitorRoom + (rest.map fun v => v.category).sum ≤ 8) (hdg : decode cc g.pc = .ok (.invokestatic index, 3)) (hf : cells + mc ≤ R.cells ∧ slots + ms ≤ R.slots) :
    vx_Run p l e R s m args below meth c H locs cells slots mc ms g rest (Qc As.toArray) XC free := by
  have hK : vx_Back l R p e below s args y 3 8 (PreOf R mc ms Pc) (PostOf Qc mc ms free) (vx_Post XC mc ms free) := vx_callBack cw.1 hM hp.1
  obtain ⟨⟨-, -, -, -, -, -, hcode, hini, hy, hlen, hl⟩, hstt⟩ := cw
  obtain ⟨hx, hb, hml, ho, -⟩ := S
  intro T hT X
  rcases vx_callS X hx (bytes := bytes) (maxL := maxL) (ret := ret) ho hl hstt hini hcode hy hK hg (hsize.trans hml.symm) (argsL := As) (rest := rest) (fun sig h => hn.trans (hlen sig h)) hstack hW (by rw [hb]; exact hdg)
    (fun vm₁ hW₁ => ⟨hf.1, hf.2, hp.2 (T.setVm vm₁) hT hW₁⟩) with ⟨v, vm₁, ⟨U', l2, c2, s2⟩, hW₁, X', ⟨g', mk, t, L, e1, e2, hq, h1, hL, h2, h3⟩, st⟩ | ⟨q, vm₁, ⟨U', l2, c2, s2⟩, hW₁, X', ⟨g', mk, t, L, E, ce, e1, e2, hq, hce, hcv, hcl, h1, hL, h2, h3⟩, st⟩
  · dsimp only [Pt.U, Pt.locs, Pt.cells, Pt.slots] at X' e1 e2 h1 h2 h3 st
    subst h1; subst h2; subst h3
    exact Or.inl ⟨v, (T.setVm vm₁).calling g' mk As.toArray, t, U', L, hT, X', hL, e1, e2, hq, st⟩
  · dsimp only [Pt.U, Pt.locs, Pt.cells, Pt.slots] at X' e1 e2 h1 h2 h3 st hcl
    subst h1; subst h2; subst h3
    exact Or.inr ⟨q, (T.setVm vm₁).calling g' mk As.toArray, t, U', L, E, ce, hT, X', hL, e1, e2, hq, hce, hcv, vx_cls hW₁ hcl, st⟩
end Runs
section Rows
variable {p : Program} {l : Launch} {e : Env} {R : Room} {s : State} {m : MethodId} {args : Array Value} {below : List Frame} {meth : Method} {c : Code} {H : Heap} {locs : List Loc} {cells slots : Nat} {Q : State → Prop}
variable {mc ms : Nat} {free : Addr → Prop} {A0 A1 : Nat → Prop} {H0 : Heap} {a : Array Value} {pc : Nat} {ls : Array Slot} {st0 rest : List Value}
theorem vx_keep {st₀ t T' : State} {L : List Loc} (h0 : st₀.heap = H) (e1 : T'.heap = t.heap) (hS : va_S A0 H0 H locs) (hA : ∀ q, q < H.size → A1 q → A0 q) (hf : ∀ q, free q → A0 q) (hL : ∀ q ∈ L, free q.base) (hF : va_F A1 st₀ t) :
    H.size ≤ T'.heap.size ∧ (∀ q : Nat, q < H.size → ¬ A1 q → T'.heap[q]? = H[q]?) ∧ va_S A0 H0 T'.heap (locs ++ L) := by
  obtain ⟨hz, hk⟩ := hF
  rw [h0] at hz hk
  exact ⟨by rw [e1]; exact hz, fun q h1 h2 => by rw [e1]; exact hk q h1 h2,
    ⟨Nat.le_trans hS.1 (by rw [e1]; exact hz), fun q h1 h2 => by rw [e1, hk q (Nat.lt_of_lt_of_le h1 hS.1) (fun z => h2 (hA q (Nat.lt_of_lt_of_le h1 hS.1) z))]; exact hS.2.1 q h1 h2, fun q hq => by
      rcases List.mem_append.mp hq with h | h
      · exact hS.2.2 q h
      · exact hf _ (hL q h)⟩⟩
theorem vx_calli {S SX : Type} {post : Int32 → S → Prop} {px : SX → Prop} {B : S → State → Prop} {BX : String → SX → State → Prop} {AX : Nat → Prop} (hr : vx_Run p l e R s m args below meth c H locs cells slots mc ms (F0 m pc ls st0) rest (va_Qi post B A1 a) (vx_X px BX AX) free) (hS : va_S A0 H0 H locs) (hA : ∀ q, q < H.size → A1 q → A0 q) (hf : ∀ q, free q → A0 q) (hAX : ∀ q, q < H.size → AX q → A0 q)
    (kx : ∀ (E : String) (ce : Cell) (q9 : Addr) (u : SX) (t : State) (H1 : Heap) (locs1 : List Loc), t.heap = H1 → s.vm.Alike t.vm → px u → BX E u t → H.size ≤ H1.size → (∀ q : Nat, q < H.size → ¬ AX q → H1[q]? = H[q]?) → va_S A0 H0 H1 locs1 → H1[q9]? = some ce → ce.vm = .none → s.vm.findClass E = some ce.cls → vx_W p l e R s m args below meth c H1 locs1 (cells + mc) (slots + ms) Q (F0 m pc ls rest) q9)
    (kk : ∀ (r : Int32) (u : S) (t : State) (H1 : Heap) (locs1 : List Loc), t.heap = H1 → s.vm.Alike t.vm → post r u → B u t → H.size ≤ H1.size → (∀ q : Nat, q < H.size → ¬ A1 q → H1[q]? = H[q]?) → va_S A0 H0 H1 locs1 → W p l e R s m args below meth c H1 locs1 (cells + mc) (slots + ms) Q (F0 m (pc + 3) ls (.int r :: rest))) : W p l e R s m args below meth c H locs cells slots Q (F0 m pc ls st0) := by
  intro T hT X
  rcases hr T hT X with ⟨v, st₀, t, T', L, h0, X', hL, e1, e2, ⟨⟨r, u, hv, hp, hb⟩, hF⟩, st⟩ | ⟨q, st₀, t, T', L, E, ce, h0, X', hL, e1, e2, ⟨u, hp, hb, hF⟩, hce, hcv, hcl, st⟩
  · cases hv
    obtain ⟨k1, k2, k3⟩ := vx_keep h0 e1 hS hA hf hL hF
    obtain ⟨t2, a1, b1⟩ := kk r u t T'.heap (locs ++ L) e1.symm (by rw [← e2]; exact X'.warmed.alike) hp hb k1 k2 k3 T' rfl X'
    exact ⟨t2, st t2 a1, b1⟩
  · obtain ⟨k1, k2, k3⟩ := vx_keep h0 e1 hS hAX hf hL hF
    obtain ⟨t2, a1, b1⟩ := kx E ce q u t T'.heap (locs ++ L) e1.symm (by rw [← e2]; exact X'.warmed.alike) hp hb k1 k2 k3 (by rw [e1]; exact hce) hcv hcl T' rfl X'
    exact ⟨t2, st.trans a1, b1⟩
theorem vx_calll {S SX : Type} {post : Int64 → S → Prop} {px : SX → Prop} {B : S → State → Prop} {BX : String → SX → State → Prop} {AX : Nat → Prop} (hr : vx_Run p l e R s m args below meth c H locs cells slots mc ms (F0 m pc ls st0) rest (va_Ql post B A1 a) (vx_X px BX AX) free) (hS : va_S A0 H0 H locs) (hA : ∀ q, q < H.size → A1 q → A0 q) (hf : ∀ q, free q → A0 q) (hAX : ∀ q, q < H.size → AX q → A0 q)
    (kx : ∀ (E : String) (ce : Cell) (q9 : Addr) (u : SX) (t : State) (H1 : Heap) (locs1 : List Loc), t.heap = H1 → s.vm.Alike t.vm → px u → BX E u t → H.size ≤ H1.size → (∀ q : Nat, q < H.size → ¬ AX q → H1[q]? = H[q]?) → va_S A0 H0 H1 locs1 → H1[q9]? = some ce → ce.vm = .none → s.vm.findClass E = some ce.cls → vx_W p l e R s m args below meth c H1 locs1 (cells + mc) (slots + ms) Q (F0 m pc ls rest) q9)
    (kk : ∀ (r : Int64) (u : S) (t : State) (H1 : Heap) (locs1 : List Loc), t.heap = H1 → s.vm.Alike t.vm → post r u → B u t → H.size ≤ H1.size → (∀ q : Nat, q < H.size → ¬ A1 q → H1[q]? = H[q]?) → va_S A0 H0 H1 locs1 → W p l e R s m args below meth c H1 locs1 (cells + mc) (slots + ms) Q (F0 m (pc + 3) ls (.long r :: rest))) : W p l e R s m args below meth c H locs cells slots Q (F0 m pc ls st0) := by
  intro T hT X
  rcases hr T hT X with ⟨v, st₀, t, T', L, h0, X', hL, e1, e2, ⟨⟨r, u, hv, hp, hb⟩, hF⟩, st⟩ | ⟨q, st₀, t, T', L, E, ce, h0, X', hL, e1, e2, ⟨u, hp, hb, hF⟩, hce, hcv, hcl, st⟩
  · cases hv
    obtain ⟨k1, k2, k3⟩ := vx_keep h0 e1 hS hA hf hL hF
    obtain ⟨t2, a1, b1⟩ := kk r u t T'.heap (locs ++ L) e1.symm (by rw [← e2]; exact X'.warmed.alike) hp hb k1 k2 k3 T' rfl X'
    exact ⟨t2, st t2 a1, b1⟩
  · obtain ⟨k1, k2, k3⟩ := vx_keep h0 e1 hS hAX hf hL hF
    obtain ⟨t2, a1, b1⟩ := kx E ce q u t T'.heap (locs ++ L) e1.symm (by rw [← e2]; exact X'.warmed.alike) hp hb k1 k2 k3 (by rw [e1]; exact hce) hcv hcl T' rfl X'
    exact ⟨t2, st.trans a1, b1⟩
theorem vx_callf {S SX : Type} {post : UInt32 → S → Prop} {px : SX → Prop} {B : S → State → Prop} {BX : String → SX → State → Prop} {AX : Nat → Prop} (hr : vx_Run p l e R s m args below meth c H locs cells slots mc ms (F0 m pc ls st0) rest (va_Qf post B A1 a) (vx_X px BX AX) free) (hS : va_S A0 H0 H locs) (hA : ∀ q, q < H.size → A1 q → A0 q) (hf : ∀ q, free q → A0 q) (hAX : ∀ q, q < H.size → AX q → A0 q)
    (kx : ∀ (E : String) (ce : Cell) (q9 : Addr) (u : SX) (t : State) (H1 : Heap) (locs1 : List Loc), t.heap = H1 → s.vm.Alike t.vm → px u → BX E u t → H.size ≤ H1.size → (∀ q : Nat, q < H.size → ¬ AX q → H1[q]? = H[q]?) → va_S A0 H0 H1 locs1 → H1[q9]? = some ce → ce.vm = .none → s.vm.findClass E = some ce.cls → vx_W p l e R s m args below meth c H1 locs1 (cells + mc) (slots + ms) Q (F0 m pc ls rest) q9)
    (kk : ∀ (r : UInt32) (u : S) (t : State) (H1 : Heap) (locs1 : List Loc), t.heap = H1 → s.vm.Alike t.vm → post r u → B u t → H.size ≤ H1.size → (∀ q : Nat, q < H.size → ¬ A1 q → H1[q]? = H[q]?) → va_S A0 H0 H1 locs1 → W p l e R s m args below meth c H1 locs1 (cells + mc) (slots + ms) Q (F0 m (pc + 3) ls (.float r :: rest))) : W p l e R s m args below meth c H locs cells slots Q (F0 m pc ls st0) := by
  intro T hT X
  rcases hr T hT X with ⟨v, st₀, t, T', L, h0, X', hL, e1, e2, ⟨⟨r, u, hv, hp, hb⟩, hF⟩, st⟩ | ⟨q, st₀, t, T', L, E, ce, h0, X', hL, e1, e2, ⟨u, hp, hb, hF⟩, hce, hcv, hcl, st⟩
  · cases hv
    obtain ⟨k1, k2, k3⟩ := vx_keep h0 e1 hS hA hf hL hF
    obtain ⟨t2, a1, b1⟩ := kk r u t T'.heap (locs ++ L) e1.symm (by rw [← e2]; exact X'.warmed.alike) hp hb k1 k2 k3 T' rfl X'
    exact ⟨t2, st t2 a1, b1⟩
  · obtain ⟨k1, k2, k3⟩ := vx_keep h0 e1 hS hAX hf hL hF
    obtain ⟨t2, a1, b1⟩ := kx E ce q u t T'.heap (locs ++ L) e1.symm (by rw [← e2]; exact X'.warmed.alike) hp hb k1 k2 k3 (by rw [e1]; exact hce) hcv hcl T' rfl X'
    exact ⟨t2, st.trans a1, b1⟩
theorem vx_calld {S SX : Type} {post : UInt64 → S → Prop} {px : SX → Prop} {B : S → State → Prop} {BX : String → SX → State → Prop} {AX : Nat → Prop} (hr : vx_Run p l e R s m args below meth c H locs cells slots mc ms (F0 m pc ls st0) rest (va_Qd post B A1 a) (vx_X px BX AX) free) (hS : va_S A0 H0 H locs) (hA : ∀ q, q < H.size → A1 q → A0 q) (hf : ∀ q, free q → A0 q) (hAX : ∀ q, q < H.size → AX q → A0 q)
    (kx : ∀ (E : String) (ce : Cell) (q9 : Addr) (u : SX) (t : State) (H1 : Heap) (locs1 : List Loc), t.heap = H1 → s.vm.Alike t.vm → px u → BX E u t → H.size ≤ H1.size → (∀ q : Nat, q < H.size → ¬ AX q → H1[q]? = H[q]?) → va_S A0 H0 H1 locs1 → H1[q9]? = some ce → ce.vm = .none → s.vm.findClass E = some ce.cls → vx_W p l e R s m args below meth c H1 locs1 (cells + mc) (slots + ms) Q (F0 m pc ls rest) q9)
    (kk : ∀ (r : UInt64) (u : S) (t : State) (H1 : Heap) (locs1 : List Loc), t.heap = H1 → s.vm.Alike t.vm → post r u → B u t → H.size ≤ H1.size → (∀ q : Nat, q < H.size → ¬ A1 q → H1[q]? = H[q]?) → va_S A0 H0 H1 locs1 → W p l e R s m args below meth c H1 locs1 (cells + mc) (slots + ms) Q (F0 m (pc + 3) ls (.double r :: rest))) : W p l e R s m args below meth c H locs cells slots Q (F0 m pc ls st0) := by
  intro T hT X
  rcases hr T hT X with ⟨v, st₀, t, T', L, h0, X', hL, e1, e2, ⟨⟨r, u, hv, hp, hb⟩, hF⟩, st⟩ | ⟨q, st₀, t, T', L, E, ce, h0, X', hL, e1, e2, ⟨u, hp, hb, hF⟩, hce, hcv, hcl, st⟩
  · cases hv
    obtain ⟨k1, k2, k3⟩ := vx_keep h0 e1 hS hA hf hL hF
    obtain ⟨t2, a1, b1⟩ := kk r u t T'.heap (locs ++ L) e1.symm (by rw [← e2]; exact X'.warmed.alike) hp hb k1 k2 k3 T' rfl X'
    exact ⟨t2, st t2 a1, b1⟩
  · obtain ⟨k1, k2, k3⟩ := vx_keep h0 e1 hS hAX hf hL hF
    obtain ⟨t2, a1, b1⟩ := kx E ce q u t T'.heap (locs ++ L) e1.symm (by rw [← e2]; exact X'.warmed.alike) hp hb k1 k2 k3 (by rw [e1]; exact hce) hcv hcl T' rfl X'
    exact ⟨t2, st.trans a1, b1⟩
theorem vx_callv {S SX : Type} {post : S → Prop} {px : SX → Prop} {B : S → State → Prop} {BX : String → SX → State → Prop} {AX : Nat → Prop} (hr : vx_Run p l e R s m args below meth c H locs cells slots mc ms (F0 m pc ls st0) rest (va_Qv post B A1 a) (vx_X px BX AX) free) (hS : va_S A0 H0 H locs) (hA : ∀ q, q < H.size → A1 q → A0 q) (hf : ∀ q, free q → A0 q) (hAX : ∀ q, q < H.size → AX q → A0 q)
    (kx : ∀ (E : String) (ce : Cell) (q9 : Addr) (u : SX) (t : State) (H1 : Heap) (locs1 : List Loc), t.heap = H1 → s.vm.Alike t.vm → px u → BX E u t → H.size ≤ H1.size → (∀ q : Nat, q < H.size → ¬ AX q → H1[q]? = H[q]?) → va_S A0 H0 H1 locs1 → H1[q9]? = some ce → ce.vm = .none → s.vm.findClass E = some ce.cls → vx_W p l e R s m args below meth c H1 locs1 (cells + mc) (slots + ms) Q (F0 m pc ls rest) q9)
    (kk : ∀ (u : S) (t : State) (H1 : Heap) (locs1 : List Loc), t.heap = H1 → s.vm.Alike t.vm → post u → B u t → H.size ≤ H1.size → (∀ q : Nat, q < H.size → ¬ A1 q → H1[q]? = H[q]?) → va_S A0 H0 H1 locs1 → W p l e R s m args below meth c H1 locs1 (cells + mc) (slots + ms) Q (F0 m (pc + 3) ls (rest))) : W p l e R s m args below meth c H locs cells slots Q (F0 m pc ls st0) := by
  intro T hT X
  rcases hr T hT X with ⟨v, st₀, t, T', L, h0, X', hL, e1, e2, ⟨⟨u, hv, hp, hb⟩, hF⟩, st⟩ | ⟨q, st₀, t, T', L, E, ce, h0, X', hL, e1, e2, ⟨u, hp, hb, hF⟩, hce, hcv, hcl, st⟩
  · cases hv
    obtain ⟨k1, k2, k3⟩ := vx_keep h0 e1 hS hA hf hL hF
    obtain ⟨t2, a1, b1⟩ := kk u t T'.heap (locs ++ L) e1.symm (by rw [← e2]; exact X'.warmed.alike) hp hb k1 k2 k3 T' rfl X'
    exact ⟨t2, st t2 a1, b1⟩
  · obtain ⟨k1, k2, k3⟩ := vx_keep h0 e1 hS hAX hf hL hF
    obtain ⟨t2, a1, b1⟩ := kx E ce q u t T'.heap (locs ++ L) e1.symm (by rw [← e2]; exact X'.warmed.alike) hp hb k1 k2 k3 (by rw [e1]; exact hce) hcv hcl T' rfl X'
    exact ⟨t2, st.trans a1, b1⟩
/-- caught by the row x of this method's table; the rows ahead don't take it -/
theorem vx_catch {own name : String} {E : String} {ce : Cell} {q : Addr} (hown : s.vm.findClass own = some m.cls) (pre : List ExceptionTableEntry) (x : ExceptionTableEntry) (suf : List ExceptionTableEntry) (hsplit : c.exceptionTable.toList = pre ++ x :: suf)
    (hpass : ∀ z ∈ pre, covers z pc = false ∨ (z.catchType ≠ 0 ∧ ∃ nm : String, (Cond.classLink own z.catchType nm).before args s = true ∧ va_Nc E nm s)) (hx : covers x pc = true) (h0 : x.catchType ≠ 0)
    (hlink : (Cond.classLink own x.catchType name).before args s = true) (hcast : (Cond.castable E name).before args s = true) (hcell : H[q]? = some ce) (hv : ce.vm = .none) (hcl : s.vm.findClass E = some ce.cls)
    (kk : W p l e R s m args below meth c H locs cells slots Q (F0 m x.handlerPc ls [.ref q])) : vx_W p l e R s m args below meth c H locs cells slots Q (F0 m pc ls rest) q := by
  intro T hT X
  have hpl : e.platform.magicAccessors = ({} : Platform).magicAccessors := by rw [X.admits.platform]
  obtain ⟨c3, c4, hc3, hc4, hasg⟩ := Cond.castable_spec hcast
  cases Option.some.inj (hc3.symm.trans hcl)
  obtain ⟨c5, hc5, hcl5⟩ := Cond.classLink_spec hown hlink e.platform hpl
  cases Option.some.inj (hc4.symm.trans hc5)
  obtain ⟨vm', X', st⟩ := X.thenCaughtThrough q (g := F0 m pc ls rest) rfl (Steps.refl _) (by rw [hT]; exact hcell) (by rw [hv]; rfl) (by obtain ⟨k9, h9, -⟩ := Vm.findClass_spec hcl; exact ⟨k9, h9⟩) pre x suf hsplit
    (fun z hz => by
      rcases hpass z hz with h | ⟨hz0, nm, hl1, hn1⟩
      · exact Or.inl h
      · obtain ⟨c6, hc6, hcl6⟩ := Cond.classLink_spec hown hl1 e.platform hpl
        obtain ⟨a8, b8, h1, h2, h3⟩ := hn1
        cases Option.some.inj (h1.symm.trans hcl)
        cases Option.some.inj (h2.symm.trans hc6)
        exact Or.inr ⟨hz0, _, hcl6, h3⟩) hx (Or.inr ⟨h0, c4, hcl5, hasg⟩)
  obtain ⟨t, a1, b1⟩ := kk (T.setVm vm') hT X'
  exact ⟨t, st.trans a1, b1⟩
end Rows
section Ends
variable {p : Program} {l : Launch} {e : Env} {R : Room} {s : State} {m : MethodId} {args : Array Value} {below : List Frame} {meth : Method} {c : Code} {H : Heap} {locs : List Loc} {cells slots : Nat} {Q : State → Prop}
variable {mc ms : Nat} {free : Addr → Prop} {A0 A1 : Nat → Prop} {H0 : Heap} {a : Array Value} {ls : Array Slot} {st0 rest : List Value}
variable {Qc : Array Value → State → Outcome → State → Prop} {XC : String → State → State → Prop}
/-- what a body that may throw owes at its end -/
def vx_MQ (below : List Frame) (Qc : Array Value → State → Outcome → State → Prop) (XC : String → State → State → Prop) (a : Array Value) (s : State) (mc ms : Nat) (free : Addr → Prop) : State → Prop := fun t =>
  ∃ o, t.status = .running ∧ Ended t below o ∧ vx_Q Qc XC mc ms free a s o t
theorem vx_ret {g : JFrame} {mc ms : Nat} (k : W p l e R s m args below meth c H locs cells slots (MQ below Qc args s mc ms free) g) : W p l e R s m args below meth c H locs cells slots (vx_MQ below Qc XC args s mc ms free) g := by
  intro T hT X
  obtain ⟨t, a1, o, b1, b2, b3, b4⟩ := k T hT X
  exact ⟨t, a1, o, b1, b2, Or.inl ⟨b3, b4⟩⟩
/-- not caught here: it goes on to the caller -/
theorem vx_widen {g : JFrame} {q : Addr} {k n : Nat} (h1 : cells ≤ k) (h2 : slots ≤ n) (kk : vx_W p l e R s m args below meth c H locs k n Q g q) : vx_W p l e R s m args below meth c H locs cells slots Q g q := fun T hT X => kk T hT (stand_widen X h1 h2)
theorem vx_out {pc : Nat} {E : String} {ce : Cell} {q : Addr} {mc ms : Nat} (hout : ∀ x ∈ c.exceptionTable.toList, covers x pc = false) (hlocks : meth.locks = false) (hcell : H[q]? = some ce) (hv : ce.vm = .none) (hcl : s.vm.findClass E = some ce.cls)
    (hx : ∀ t : State, t.heap = H → s.vm.Alike t.vm → XC E s t) (hf : ∀ z ∈ locs, free z.base) (hc : cells ≤ mc) (hs : slots ≤ ms) :
    vx_W p l e R s m args below meth c H locs cells slots (vx_MQ below Qc XC args s mc ms free) (F0 m pc ls rest) q := by
  intro T hT X
  obtain ⟨st1, hrun, hend, hW, hsm⟩ := X.leaveThrown q (g := F0 m pc ls rest) rfl rfl rfl hout hlocks
  have hcell9 : (T.setFrames (.throwing q :: below)).heap[q]? = some ce := by
    show T.heap[q]? = some ce
    rw [hT]; exact hcell
  exact ⟨_, st1, .threw q, hrun, hend, Or.inr ⟨q, rfl, E, ce, locs, hx _ hT hW.alike, hcell9, hv, hcl, hW, hsm.mono hc hs, hf⟩⟩
theorem vx_frame {U : State} {k n : Nat} (h : s.sameButNew ({ U with vm := s.vm } : State) locs k n) : s.heap.size ≤ U.heap.size ∧ ∀ q : Nat, q < s.heap.size → (∀ z ∈ locs, z.base ≠ q) → U.heap[q]? = s.heap[q]? := by
  obtain ⟨-, h2, -, -, -, h6⟩ := h
  refine ⟨h2, fun q hq hz => ?_⟩
  obtain ⟨c9, e1, e2, e3, e4⟩ := h6 q _ (Array.getElem?_eq_getElem hq)
  have hs : c9.slots = (s.heap[q]).slots := Array.ext_getElem? fun i => e4 i fun hm => hz _ hm rfl
  have h9 : c9 = s.heap[q] := by
    rw [hs] at e2
    exact e2
  have e5 : U.heap[q]? = some c9 := e1
  rw [e5, h9, Array.getElem?_eq_getElem hq]
/-- the words of a throw but the four that speak of the heap -/
def vx_no (w : Cond) : Bool := decide (w ≠ .isRef (.static Bundle.tN "UNASSIGNED_STACK" Bundle.steD)) && decide (w ≠ .isRef (.static Bundle.tN "SUPPRESSED_SENTINEL" Bundle.listD)) && decide (w ≠ .laysStatic Bundle.tN "UNASSIGNED_STACK" Bundle.steD) && decide (w ≠ .laysStatic Bundle.tN "SUPPRESSED_SENTINEL" Bundle.listD)
def vx_at0 (own : String) (ic : Nat) (X : String) (names : List String) : List Cond := (Bundle.ownAtoms0 own ic X names).filter vx_no
def vx_atS (own : String) (ic : Nat) (X : String) (names : List String) : List Cond := (Bundle.ownAtoms own ic X names).filter vx_no
/-- a word that the tables alone decide, or a good one -/
def vx_ot (w : Cond) : Bool := w.onTables || goodWord w
theorem vx_ot_at {args a' : Array Value} {s U : State} {w : Cond} (hW : s.WarmedH U.vm) (hvm : s.vm = U.vm) (hg : vx_ot w = true) (h : w.before args s = true) : w.before a' U = true := by
  simp only [vx_ot, Bool.or_eq_true] at hg
  rcases hg with hg | hg
  · exact va_tabs hg hvm h
  · exact word_at hW (good_of_word hg) h
/-- a list's words: the good ones out of the method's own list, the others by premises of their own -/
theorem vx_hat {args : Array Value} {s : State} {L B : List Cond} (h1 : ∀ w ∈ L.filter goodWord, w.before args s = true) (h2 : ∀ w ∈ L.filter (fun w => !goodWord w), w ∈ B) (h3 : ∀ w ∈ B, w.before args s = true) : ∀ w ∈ L, w.before args s = true := by
  intro w hw
  by_cases g : goodWord w = true
  · exact h1 w (List.mem_filter.mpr ⟨hw, g⟩)
  · refine h3 w (h2 w (List.mem_filter.mpr ⟨hw, ?_⟩))
    show (!goodWord w) = true
    cases hgw : goodWord w
    · rfl
    · exact absurd hgw g
theorem vx_c {args : Array Value} {s : State} {w : Cond} {B : List Cond} (h : w.before args s = true) (t : ∀ w ∈ B, w.before args s = true) : ∀ w' ∈ w :: B, w'.before args s = true := fun w' h' => (List.mem_cons.mp h').elim (fun e => by rw [e]; exact h) (t w')
theorem vx_n {args : Array Value} {s : State} : ∀ w ∈ ([] : List Cond), w.before args s = true := fun _ h => nomatch h
theorem vx_own {args : Array Value} {s : State} {L : List Cond} (h1 : ∀ w ∈ L.filter vx_no, w.before args s = true)
    (hU : (Cond.isRef (.static Bundle.tN "UNASSIGNED_STACK" Bundle.steD)).before args s = true) (hN : (Cond.isRef (.static Bundle.tN "SUPPRESSED_SENTINEL" Bundle.listD)).before args s = true)
    (lU : (Cond.laysStatic Bundle.tN "UNASSIGNED_STACK" Bundle.steD).before args s = true) (lN : (Cond.laysStatic Bundle.tN "SUPPRESSED_SENTINEL" Bundle.listD).before args s = true) : ∀ w ∈ L, w.before args s = true := by
  intro w hw
  by_cases e1 : w = .isRef (.static Bundle.tN "UNASSIGNED_STACK" Bundle.steD)
  · rw [e1]; exact hU
  · by_cases e2 : w = .isRef (.static Bundle.tN "SUPPRESSED_SENTINEL" Bundle.listD)
    · rw [e2]; exact hN
    · by_cases e3 : w = .laysStatic Bundle.tN "UNASSIGNED_STACK" Bundle.steD
      · rw [e3]; exact lU
      · by_cases e4 : w = .laysStatic Bundle.tN "SUPPRESSED_SENTINEL" Bundle.listD
        · rw [e4]; exact lN
        · exact h1 w (List.mem_filter.mpr ⟨hw, by unfold vx_no; rw [decide_eq_true e1, decide_eq_true e2, decide_eq_true e3, decide_eq_true e4]; rfl⟩)
/-- where a static field lies, its class's statics cell in H -/
def vx_L (C n d : String) (A : Nat → Prop) (U : State) (H : Heap) : Prop := ∃ (c : ClassId) (k : Class) (i : Nat) (f : Field) (a : Nat) (cell : Cell), U.vm.findClass C = some c ∧ U.fieldFound? C n d = some (c, k, i, f) ∧ f.isStatic = true ∧ k.statics = some a ∧ H[a]? = some cell ∧ cell.vm.isStatics = true ∧ cell.cls = c ∧ f.slot < cell.slots.size ∧ k.staticTypes[f.slot]? = some f.type ∧ ¬ A a
theorem vx_L.moved {C n d : String} {A : Nat → Prop} {u U : State} {H : Heap} (hvm : u.vm.Alike U.vm) (h : vx_L C n d A u H) : vx_L C n d A U H := by
  obtain ⟨c, k, i, f, a, cell, h1, h2, h3, h4, h5, h6, h7, h8, h9, h10⟩ := h
  obtain ⟨k', hi', he⟩ := State.fieldFound?_setVm hvm h2
  exact ⟨c, k', i, f, a, cell, by rw [hvm.findClass]; exact h1, hi', h3, by rw [he]; exact h4, h5, h6, h7, h8, by rw [he]; exact h9, h10⟩
theorem vx_L.kept {C n d : String} {A : Nat → Prop} {U : State} {H H1 : Heap} (h : vx_L C n d A U H) (hq : ∀ a : Nat, a < H.size → ¬ A a → H1[a]? = H[a]?) : vx_L C n d A U H1 := by
  obtain ⟨c, k, i, f, a, cell, h1, h2, h3, h4, h5, h6, h7, h8, h9, h10⟩ := h
  exact ⟨c, k, i, f, a, cell, h1, h2, h3, h4, by rw [hq a (Array.getElem?_eq_some_iff.mp h5).1 h10]; exact h5, h6, h7, h8, h9, h10⟩
theorem vx_L.narrow {C n d : String} {A B : Nat → Prop} {U : State} {H : Heap} (h : vx_L C n d A U H) (hAB : ∀ q, B q → A q) : vx_L C n d B U H := by
  obtain ⟨c, k, i, f, a, cell, h1, h2, h3, h4, h5, h6, h7, h8, h9, h10⟩ := h
  exact ⟨c, k, i, f, a, cell, h1, h2, h3, h4, h5, h6, h7, h8, h9, fun z => h10 (hAB _ z)⟩
theorem vx_L.word {C n d : String} {A : Nat → Prop} {s : State} {args : Array Value} (h : vx_L C n d A s s.heap) : (Cond.laysStatic C n d).before args s = true := by
  obtain ⟨c, k, i, f, a, cell, h1, h2, h3, h4, h5, h6, h7, h8, h9, -⟩ := h
  show (Cond.laysStatic C n d).holds args s none s [] = true
  exact Cond.laysStatic_of h1 h2 h3 h4 h5 h6 h7 h8 h9
/-- .. and what it holds: null or some reference -/
def vx_Zq (C n d : String) (A : Nat → Prop) (U : State) (H : Heap) : Prop := va_Zq C n d A U H ∧ vx_L C n d A U H
theorem vx_Zq.moved {C n d : String} {A : Nat → Prop} {u U : State} {H : Heap} (hvm : u.vm.Alike U.vm) (h : vx_Zq C n d A u H) : vx_Zq C n d A U H := ⟨va_Zq.moved hvm h.1, vx_L.moved hvm h.2⟩
theorem vx_Zq.kept {C n d : String} {A : Nat → Prop} {U : State} {H H1 : Heap} (h : vx_Zq C n d A U H) (hq : ∀ a : Nat, a < H.size → ¬ A a → H1[a]? = H[a]?) : vx_Zq C n d A U H1 := ⟨va_Zq.kept h.1 hq, vx_L.kept h.2 hq⟩
theorem vx_Zq.narrow {C n d : String} {A B : Nat → Prop} {U : State} {H : Heap} (h : vx_Zq C n d A U H) (hAB : ∀ q, B q → A q) : vx_Zq C n d B U H := ⟨va_Zq.narrow h.1 hAB, vx_L.narrow h.2 hAB⟩
theorem vx_Zqof {args : Array Value} {s : State} {C n d : String} {A : Nat → Prop} (hl : (Cond.laysStatic C n d).before args s = true) (hini : (Cond.initialized C).before args s = true) (h : (Cond.isRef (.static C n d)).before args s = true) (hA : ∀ a : Nat, a < s.heap.size → ¬ A a) : vx_Zq C n d A s s.heap := by
  refine ⟨va_Zqof hl hini h hA, ?_⟩
  obtain ⟨c, k, i, f, a, cell, h1, h2, h3, h4, h5, h6, h7, h8, h9⟩ := Cond.laysStatic_spec hl
  exact ⟨c, k, i, f, a, cell, h1, h2, h3, h4, h5, h6, h7, h8, h9, hA a (Array.getElem?_eq_some_iff.mp h5).1⟩
theorem vx_isRef {C n d : String} {v : Value} {A : Nat → Prop} {s : State} {args : Array Value} (h : va_Z C n d v A s s.heap) (hv : v.isRef = true) : (Cond.isRef (.static C n d)).before args s = true := by
  obtain ⟨cf, kf, fi, f, a, cell, h1, h2, h3, h4, h5, h6, h7, -⟩ := h
  have he : (Term.static C n d).eval args s none [] s = some v := by
    simp [Term.eval, State.fieldNamed?, h1, h2, h4, h5, h6, h7]
  simp only [Cond.before, Cond.holds, Cond.value, he]
  cases v <;> simp_all [Value.isRef]
theorem vx_isRefq {C n d : String} {A : Nat → Prop} {s : State} {args : Array Value} (h : va_Zq C n d A s s.heap) : (Cond.isRef (.static C n d)).before args s = true := by
  rcases h with h | ⟨t, h⟩
  · exact vx_isRef h rfl
  · exact vx_isRef h rfl
/-- the same frame, seen from here: as if the method were called anew in this heap -/
theorem vx_rebase {T : State} (X : Stand p l e R s m args below meth c T locs cells slots) {R' : Room} (hf : R'.frames ≤ R.frames) (hl : R'.locals ≤ R.locals) (hc : cells + R'.cells ≤ R.cells) (hs : slots + R'.slots ≤ R.slots) :
    Stand p l e R' ((T.setVm s.vm).setFrames (.invoking m args :: below)) m args below meth c T [] 0 0 := by
  have htop : (T.setVm s.vm).topJava?.isSome := X.here.top
  have hF : ((T.setVm s.vm).setFrames (.invoking m args :: below)).frames = .invoking m args :: below := State.frames_setFrames _ (State.cur_lt_of_top htop)
  obtain ⟨g₀, hg0⟩ := Option.isSome_iff_exists.mp htop
  obtain ⟨r, hr⟩ := State.topJava?_eq_some.mp hg0
  have hl9 : e.platform.stackLimits (T.setVm s.vm).me = e.platform.stackLimits s.me := X.limits
  have hb9 : (T.setVm s.vm).me.stackBytes = s.me.stackBytes := X.bytes
  refine ⟨X.admits, X.cas, X.clock, hF, ?_, X.hears, X.method, X.code, X.here, X.tail, X.warmed, ?_, ?_, ?_⟩
  · have h := X.room
    have hU : ((T.setVm s.vm).setFrames (.invoking m args :: below)).localsInUse = s.localsInUse := by
      rw [State.localsInUse_invoking hF (meth := meth) (c := c) X.method X.code, State.localsInUse_invoking X.frames X.method X.code]
    simp only [State.hasRoom, Bool.and_eq_true, decide_eq_true_eq] at h ⊢
    obtain ⟨⟨⟨⟨h1, h2, h3, h4, h5, h6⟩, h7⟩, h8⟩, h9⟩ := h
    rw [X.frames, List.length_cons] at h2 h3
    have q1 := X.heapSize
    have q2 := X.used
    simp only [hF, hU, List.length_cons, State.stackLimits_setFrames, State.stackBytes_setFrames, hl9, hb9]
    refine ⟨⟨⟨⟨by omega, by omega, by omega, by omega, by omega, h6⟩, ?_⟩, ?_⟩, X.book⟩
    · show T.heap.size + R'.cells ≤ e.platform.maxCells
      omega
    · show T.slotsUsed + R'.slots ≤ e.platform.maxSlots
      omega
  · rw [State.stackLimits_setFrames]; rfl
  · rw [State.stackBytes_setFrames]; rfl
  · refine ⟨?_, Nat.le_refl _, Nat.le_refl _, ?_, ?_, fun a c9 h9 => ⟨c9, h9, rfl, rfl, fun _ _ => rfl⟩⟩
    · obtain ⟨t, ht, -⟩ := State.frames_cons hr
      show T.setVm s.vm = { ((T.setVm s.vm).setFrames (.invoking m args :: below)).setFrames (T.setVm s.vm).frames with heap := T.heap, slotsUsed := T.slotsUsed }
      rw [State.setFrames_setFrames, State.setFrames_self ht]
      rfl
    · show T.slotsUsed = T.slotsUsed + ((T.heap.toList.drop T.heap.size).map (·.slots.size)).sum
      rw [List.drop_eq_nil_of_le (Nat.le_of_eq Array.length_toList)]
      rfl
    · show ((T.heap.toList.drop T.heap.size).map (·.slots.size)).sum ≤ 0
      rw [List.drop_eq_nil_of_le (Nat.le_of_eq Array.length_toList)]
      exact Nat.le_refl _
/-- 'throw new E()': new; dup; invokespecial; athrow -/
theorem vx_throw0 {cc : ByteArray} {pc : Nat} (hexec : p.tables.exec = Jvm.exec) (hb : c.code = cc) (hl : l.stackTraces = false) {own cls : String} {names : List String} {ik ic mc ms : Nat} {A : Nat → Prop}
    (hown : s.vm.findClass own = some m.cls) (hcls : Bundle.fit cls = true) (hnames : ∀ n ∈ names, Bundle.fit n = true)
    (hk : (Cond.classLink own ik cls).before args s = true) (hini : (Cond.initialized cls).before args s = true) (hat : ∀ w ∈ vx_at0 own ic cls names, w.before args s = true)
    (hgood : ∀ w ∈ Cond.classLink own ik cls :: Cond.initialized cls :: vx_at0 own ic cls names, vx_ot w = true)
    (hU : vx_Zq Bundle.tN "UNASSIGNED_STACK" Bundle.steD A s s.heap) (hN : vx_Zq Bundle.tN "SUPPRESSED_SENTINEL" Bundle.listD A s s.heap) (hS : va_S A s.heap H locs) (hsize : ls.size = c.maxLocals)
    (d0 : decode cc pc = .ok (.new ik, 3)) (d3 : decode cc (pc + 3) = .ok (.dup, 1)) (d4 : decode cc (pc + 4) = .ok (.invokespecial ic, 3)) (d7 : decode cc (pc + 7) = .ok (.athrow, 1))
    (hout : ∀ x ∈ c.exceptionTable.toList, covers x (pc + 7) = false)
    (hRframes : names.length + 3 < R.frames) (hRlocals : (rest.map fun v => v.category).sum + (13 * (names.length + 1) + 42) ≤ R.locals) (hRcells : cells + 1 ≤ R.cells) (hRslots : slots + 6 ≤ R.slots) (hlocks : meth.locks = false)
    (hx : ∀ t : State, s.vm.Alike t.vm → H.size ≤ t.heap.size → (∀ q : Nat, q < H.size → t.heap[q]? = H[q]?) → XC cls s t)
    (hf : ∀ z ∈ locs, free z.base) (hc : cells + 1 ≤ mc) (hs : slots + 6 ≤ ms) :
    W p l e R s m args below meth c H locs cells slots (vx_MQ below Qc XC args s mc ms free) (F0 m pc ls rest) := by
  intro T hT X
  have htr : e.platform.stackTraces = false := (show e.platform.stackTraces = l.stackTraces by rw [X.admits.platform]).trans hl
  have Y := vx_rebase X (R' := { frames := R.frames, locals := R.locals, cells := 1, slots := 6 }) (Nat.le_refl _) (Nat.le_refl _) hRcells hRslots
  obtain ⟨s', hA⟩ : ∃ z, z = (T.setVm s.vm).setFrames (.invoking m args :: below) := ⟨_, rfl⟩
  rw [← hA] at Y
  have hvm : s'.vm = s.vm := by rw [hA]; rfl
  have hhp : s'.heap = H := by rw [hA]; exact hT
  have hW0 : s.WarmedH s'.vm := by rw [hvm]; exact State.WarmedH.refl s
  have hat' : ∀ w ∈ vx_at0 own ic cls names, w.before args s' = true := fun w hw => vx_ot_at hW0 hvm.symm (hgood w (List.mem_cons_of_mem _ (List.mem_cons_of_mem _ hw))) (hat w hw)
  have hk' : (Cond.classLink own ik cls).before args s' = true := vx_ot_at hW0 hvm.symm (hgood _ List.mem_cons_self) hk
  have hini' : (Cond.initialized cls).before args s' = true := vx_ot_at hW0 hvm.symm (hgood _ (List.mem_cons_of_mem _ List.mem_cons_self)) hini
  have hU' : vx_Zq Bundle.tN "UNASSIGNED_STACK" Bundle.steD A s' s'.heap := by rw [hhp]; exact vx_Zq.moved hW0.alike (hU.kept hS.2.1)
  have hN' : vx_Zq Bundle.tN "SUPPRESSED_SENTINEL" Bundle.listD A s' s'.heap := by rw [hhp]; exact vx_Zq.moved hW0.alike (hN.kept hS.2.1)
  have h : ∀ w ∈ Bundle.ownAtoms0 own ic cls names, w.before args s' = true := vx_own hat' (vx_isRefq hU'.1) (vx_isRefq hN'.1) hU'.2.word hN'.2.word
  have hown' : s'.vm.findClass own = some m.cls := by rw [hvm]; exact hown
  have hins : (Cond.instantiable cls 6).before args s' = true := h _ (by simp [Bundle.ownAtoms0])
  obtain ⟨vm₁, cX, kX, hfX, hkX, -, -, X₁, st1⟩ := Y.newCold hexec (own := own) (C := cls) (index := ik) (n := 6) hown' hk' hins hini'
    (g := F0 m pc ls rest) rfl (by rw [hb]; exact d0) (Nat.le_refl _) (Nat.le_refl _)
  generalize hT1 : (T.setVm vm₁).pushCell { cls := cX, slots := kX.instanceTypes.map defaultValue, vm := .none } = T1 at X₁ st1
  have hcat : (Value.ref T.heap.size).category = 1 := rfl
  have hcellA : T1.heap[T.heap.size]? = some (freshCell cX kX) := by rw [← hT1]; exact State.heap_pushCell_size _ _
  have d3' : decode c.code (pc + 3) = .ok (.dup, 1) := by rw [hb]; exact d3
  obtain ⟨U, hsteps, hrun, hend, hW, hsame, ce, hce, hO⟩ := X₁.ctorThrow0 hexec htr (own := own) (cls := cls) (names := names) (ic := ic) hown' hcls hnames h (fun x hx => nomatch hx) hfX hkX hcellA (by rw [hhp, hT]; exact Nat.le_refl _)
    (g := { method := m, pc := pc + 4, locals := ls, stack := .ref T.heap.size :: .ref T.heap.size :: rest, locked := none }) rfl hsize rfl rfl (rest := rest) rfl
    (by rw [hb]; exact d4) (by rw [hb]; exact d7) hout hRframes (by simp only [List.map_cons, List.sum_cons, hcat]; omega) hlocks
  obtain ⟨f1, f2⟩ := vx_frame hsame
  rw [hhp] at f1 f2
  have hWs : s.WarmedH U.vm := State.WarmedH.trans hW0 hW
  have hcl : s.vm.findClass cls = some ce.cls := by
    have h9 := hO.cls
    rw [hvm] at h9
    exact h9
  have hall : s.sameButNew ({ U with vm := s.vm } : State) locs mc ms := by
    subst hA
    obtain ⟨e1, e2⟩ := hsame
    rw [State.setFrames_setFrames] at e1
    have h2 : (T.setVm s.vm).sameButNew ({ U with vm := s.vm } : State) [] (0 + 1) (0 + 6) := ⟨e1, e2⟩
    have h3 := X.same.trans h2
    rw [List.append_nil] at h3
    exact h3.mono hc hs
  refine ⟨U, ?_, .threw T.heap.size, hrun, hend, Or.inr ⟨T.heap.size, rfl, cls, ce, locs, hx U hWs.alike f1 (fun q hq => f2 q hq (fun z hz => nomatch hz)), hce, hO.vm, hcl, hWs, hall, hf⟩⟩
  refine st1 _ ?_
  show Steps p.tables e below (T1.setTop { method := m, pc := pc + 3, locals := ls, stack := .ref T.heap.size :: rest, locked := none }) _
  jvm_step X₁.here [X₁.here.top, hexec, d3', Value.category]
  exact hsteps
/-- 'throw new E("text")': new; dup; ldc; invokespecial; athrow -/
theorem vx_throwS {cc : ByteArray} {pc : Nat} (hexec : p.tables.exec = Jvm.exec) (hb : c.code = cc) (hl : l.stackTraces = false) {own cls text : String} {names : List String} {ik is ic mc ms sa : Nat} {A : Nat → Prop}
    (hown : s.vm.findClass own = some m.cls) (hcls : Bundle.fit cls = true) (hnames : ∀ n ∈ names, Bundle.fit n = true)
    (hk : (Cond.classLink own ik cls).before args s = true) (hini : (Cond.initialized cls).before args s = true) (hstr : vk_R own is text sa s) (hat : ∀ w ∈ vx_atS own ic cls names, w.before args s = true)
    (hgood : ∀ w ∈ Cond.classLink own ik cls :: Cond.initialized cls :: vx_atS own ic cls names, vx_ot w = true)
    (hU : vx_Zq Bundle.tN "UNASSIGNED_STACK" Bundle.steD A s s.heap) (hN : vx_Zq Bundle.tN "SUPPRESSED_SENTINEL" Bundle.listD A s s.heap) (hS : va_S A s.heap H locs) (hsize : ls.size = c.maxLocals)
    (d0 : decode cc pc = .ok (.new ik, 3)) (d3 : decode cc (pc + 3) = .ok (.dup, 1)) (d4 : decode cc (pc + 4) = .ok (.ldc is, 2)) (d6 : decode cc (pc + 6) = .ok (.invokespecial ic, 3)) (d9 : decode cc (pc + 9) = .ok (.athrow, 1))
    (hout : ∀ x ∈ c.exceptionTable.toList, covers x (pc + 9) = false)
    (hRframes : names.length + 3 < R.frames) (hRlocals : (rest.map fun v => v.category).sum + (13 * (names.length + 1) + 43) ≤ R.locals) (hRcells : cells + 1 ≤ R.cells) (hRslots : slots + 6 ≤ R.slots) (hlocks : meth.locks = false)
    (hx : ∀ t : State, s.vm.Alike t.vm → H.size ≤ t.heap.size → (∀ q : Nat, q < H.size → t.heap[q]? = H[q]?) → XC cls s t)
    (hf : ∀ z ∈ locs, free z.base) (hc : cells + 1 ≤ mc) (hs : slots + 6 ≤ ms) :
    W p l e R s m args below meth c H locs cells slots (vx_MQ below Qc XC args s mc ms free) (F0 m pc ls rest) := by
  intro T hT X
  have htr : e.platform.stackTraces = false := (show e.platform.stackTraces = l.stackTraces by rw [X.admits.platform]).trans hl
  have Y := vx_rebase X (R' := { frames := R.frames, locals := R.locals, cells := 1, slots := 6 }) (Nat.le_refl _) (Nat.le_refl _) hRcells hRslots
  obtain ⟨s', hA⟩ : ∃ z, z = (T.setVm s.vm).setFrames (.invoking m args :: below) := ⟨_, rfl⟩
  rw [← hA] at Y
  have hvm : s'.vm = s.vm := by rw [hA]; rfl
  have hhp : s'.heap = H := by rw [hA]; exact hT
  have hW0 : s.WarmedH s'.vm := by rw [hvm]; exact State.WarmedH.refl s
  have hat' : ∀ w ∈ vx_atS own ic cls names, w.before args s' = true := fun w hw => vx_ot_at hW0 hvm.symm (hgood w (List.mem_cons_of_mem _ (List.mem_cons_of_mem _ hw))) (hat w hw)
  have hk' : (Cond.classLink own ik cls).before args s' = true := vx_ot_at hW0 hvm.symm (hgood _ List.mem_cons_self) hk
  have hini' : (Cond.initialized cls).before args s' = true := vx_ot_at hW0 hvm.symm (hgood _ (List.mem_cons_of_mem _ List.mem_cons_self)) hini
  have hU' : vx_Zq Bundle.tN "UNASSIGNED_STACK" Bundle.steD A s' s'.heap := by rw [hhp]; exact vx_Zq.moved hW0.alike (hU.kept hS.2.1)
  have hN' : vx_Zq Bundle.tN "SUPPRESSED_SENTINEL" Bundle.listD A s' s'.heap := by rw [hhp]; exact vx_Zq.moved hW0.alike (hN.kept hS.2.1)
  have h : ∀ w ∈ Bundle.ownAtoms own ic cls names, w.before args s' = true := vx_own hat' (vx_isRefq hU'.1) (vx_isRefq hN'.1) hU'.2.word hN'.2.word
  have hown' : s'.vm.findClass own = some m.cls := by rw [hvm]; exact hown
  have hins : (Cond.instantiable cls 6).before args s' = true := h _ (by simp [Bundle.ownAtoms])
  obtain ⟨vm₁, cX, kX, hfX, hkX, -, -, X₁, st1⟩ := Y.newCold hexec (own := own) (C := cls) (index := ik) (n := 6) hown' hk' hins hini'
    (g := F0 m pc ls rest) rfl (by rw [hb]; exact d0) (Nat.le_refl _) (Nat.le_refl _)
  generalize hT1 : (T.setVm vm₁).pushCell { cls := cX, slots := kX.instanceTypes.map defaultValue, vm := .none } = T1 at X₁ st1
  have hcat : (Value.ref T.heap.size).category = 1 := rfl
  have hcellA : T1.heap[T.heap.size]? = some (freshCell cX kX) := by rw [← hT1]; exact State.heap_pushCell_size _ _
  have d3' : decode c.code (pc + 3) = .ok (.dup, 1) := by rw [hb]; exact d3
  have d4' : decode c.code (pc + 4) = .ok (.ldc is, 2) := by rw [hb]; exact d4
  have hstr' : vk_R own is text sa s' := vk_R.warm hW0 hstr
  obtain ⟨U, hsteps, hrun, hend, hW, hsame, ce, hce, hO⟩ := X₁.ctorThrowS hexec htr (own := own) (cls := cls) (names := names) (ic := ic) hown' hcls hnames h (fun x hx => nomatch hx) hfX hkX hcellA (by rw [hhp, hT]; exact Nat.le_refl _) (msg := .ref sa) rfl
    (g := { method := m, pc := pc + 6, locals := ls, stack := .ref sa :: .ref T.heap.size :: .ref T.heap.size :: rest, locked := none }) rfl hsize rfl rfl (rest := rest) rfl
    (by rw [hb]; exact d6) (by rw [hb]; exact d9) hout hRframes (by simp only [List.map_cons, List.sum_cons, hcat]; omega) hlocks
  obtain ⟨f1, f2⟩ := vx_frame hsame
  rw [hhp] at f1 f2
  have hWs : s.WarmedH U.vm := State.WarmedH.trans hW0 hW
  have hcl : s.vm.findClass cls = some ce.cls := by
    have h9 := hO.cls
    rw [hvm] at h9
    exact h9
  have hall : s.sameButNew ({ U with vm := s.vm } : State) locs mc ms := by
    subst hA
    obtain ⟨e1, e2⟩ := hsame
    rw [State.setFrames_setFrames] at e1
    have h2 : (T.setVm s.vm).sameButNew ({ U with vm := s.vm } : State) [] (0 + 1) (0 + 6) := ⟨e1, e2⟩
    have h3 := X.same.trans h2
    rw [List.append_nil] at h3
    exact h3.mono hc hs
  refine ⟨U, ?_, .threw T.heap.size, hrun, hend, Or.inr ⟨T.heap.size, rfl, cls, ce, locs, hx U hWs.alike f1 (fun q hq => f2 q hq (fun z hz => nomatch hz)), hce, hO.vm, hcl, hWs, hall, hf⟩⟩
  refine st1 _ ?_
  show Steps p.tables e below (T1.setTop { method := m, pc := pc + 3, locals := ls, stack := .ref T.heap.size :: rest, locked := none }) _
  jvm_step X₁.here [X₁.here.top, hexec, d3', Value.category]
  exact X₁.ldcString hexec (own := own) (text := text) (index := is) (a := sa) hown' hstr'.1 hstr'.2
    (g := { method := m, pc := pc + 4, locals := ls, stack := .ref T.heap.size :: .ref T.heap.size :: rest, locked := none }) rfl d4' _ hsteps
/-- 'throw new E("text")', the text by a wide index -/
theorem vx_throwSW {cc : ByteArray} {pc : Nat} (hexec : p.tables.exec = Jvm.exec) (hb : c.code = cc) (hl : l.stackTraces = false) {own cls text : String} {names : List String} {ik is ic mc ms sa : Nat} {A : Nat → Prop}
    (hown : s.vm.findClass own = some m.cls) (hcls : Bundle.fit cls = true) (hnames : ∀ n ∈ names, Bundle.fit n = true)
    (hk : (Cond.classLink own ik cls).before args s = true) (hini : (Cond.initialized cls).before args s = true) (hstr : vk_R own is text sa s) (hat : ∀ w ∈ vx_atS own ic cls names, w.before args s = true)
    (hgood : ∀ w ∈ Cond.classLink own ik cls :: Cond.initialized cls :: vx_atS own ic cls names, vx_ot w = true)
    (hU : vx_Zq Bundle.tN "UNASSIGNED_STACK" Bundle.steD A s s.heap) (hN : vx_Zq Bundle.tN "SUPPRESSED_SENTINEL" Bundle.listD A s s.heap) (hS : va_S A s.heap H locs) (hsize : ls.size = c.maxLocals)
    (d0 : decode cc pc = .ok (.new ik, 3)) (d3 : decode cc (pc + 3) = .ok (.dup, 1)) (d4 : decode cc (pc + 4) = .ok (.ldc_w is, 3)) (d7 : decode cc (pc + 7) = .ok (.invokespecial ic, 3)) (d10 : decode cc (pc + 10) = .ok (.athrow, 1))
    (hout : ∀ x ∈ c.exceptionTable.toList, covers x (pc + 10) = false)
    (hRframes : names.length + 3 < R.frames) (hRlocals : (rest.map fun v => v.category).sum + (13 * (names.length + 1) + 43) ≤ R.locals) (hRcells : cells + 1 ≤ R.cells) (hRslots : slots + 6 ≤ R.slots) (hlocks : meth.locks = false)
    (hx : ∀ t : State, s.vm.Alike t.vm → H.size ≤ t.heap.size → (∀ q : Nat, q < H.size → t.heap[q]? = H[q]?) → XC cls s t)
    (hf : ∀ z ∈ locs, free z.base) (hc : cells + 1 ≤ mc) (hs : slots + 6 ≤ ms) :
    W p l e R s m args below meth c H locs cells slots (vx_MQ below Qc XC args s mc ms free) (F0 m pc ls rest) := by
  intro T hT X
  have htr : e.platform.stackTraces = false := (show e.platform.stackTraces = l.stackTraces by rw [X.admits.platform]).trans hl
  have Y := vx_rebase X (R' := { frames := R.frames, locals := R.locals, cells := 1, slots := 6 }) (Nat.le_refl _) (Nat.le_refl _) hRcells hRslots
  obtain ⟨s', hA⟩ : ∃ z, z = (T.setVm s.vm).setFrames (.invoking m args :: below) := ⟨_, rfl⟩
  rw [← hA] at Y
  have hvm : s'.vm = s.vm := by rw [hA]; rfl
  have hhp : s'.heap = H := by rw [hA]; exact hT
  have hW0 : s.WarmedH s'.vm := by rw [hvm]; exact State.WarmedH.refl s
  have hat' : ∀ w ∈ vx_atS own ic cls names, w.before args s' = true := fun w hw => vx_ot_at hW0 hvm.symm (hgood w (List.mem_cons_of_mem _ (List.mem_cons_of_mem _ hw))) (hat w hw)
  have hk' : (Cond.classLink own ik cls).before args s' = true := vx_ot_at hW0 hvm.symm (hgood _ List.mem_cons_self) hk
  have hini' : (Cond.initialized cls).before args s' = true := vx_ot_at hW0 hvm.symm (hgood _ (List.mem_cons_of_mem _ List.mem_cons_self)) hini
  have hU' : vx_Zq Bundle.tN "UNASSIGNED_STACK" Bundle.steD A s' s'.heap := by rw [hhp]; exact vx_Zq.moved hW0.alike (hU.kept hS.2.1)
  have hN' : vx_Zq Bundle.tN "SUPPRESSED_SENTINEL" Bundle.listD A s' s'.heap := by rw [hhp]; exact vx_Zq.moved hW0.alike (hN.kept hS.2.1)
  have h : ∀ w ∈ Bundle.ownAtoms own ic cls names, w.before args s' = true := vx_own hat' (vx_isRefq hU'.1) (vx_isRefq hN'.1) hU'.2.word hN'.2.word
  have hown' : s'.vm.findClass own = some m.cls := by rw [hvm]; exact hown
  have hins : (Cond.instantiable cls 6).before args s' = true := h _ (by simp [Bundle.ownAtoms])
  obtain ⟨vm₁, cX, kX, hfX, hkX, -, -, X₁, st1⟩ := Y.newCold hexec (own := own) (C := cls) (index := ik) (n := 6) hown' hk' hins hini'
    (g := F0 m pc ls rest) rfl (by rw [hb]; exact d0) (Nat.le_refl _) (Nat.le_refl _)
  generalize hT1 : (T.setVm vm₁).pushCell { cls := cX, slots := kX.instanceTypes.map defaultValue, vm := .none } = T1 at X₁ st1
  have hcat : (Value.ref T.heap.size).category = 1 := rfl
  have hcellA : T1.heap[T.heap.size]? = some (freshCell cX kX) := by rw [← hT1]; exact State.heap_pushCell_size _ _
  have d3' : decode c.code (pc + 3) = .ok (.dup, 1) := by rw [hb]; exact d3
  have d4' : decode c.code (pc + 4) = .ok (.ldc_w is, 3) := by rw [hb]; exact d4
  have hstr' : vk_R own is text sa s' := vk_R.warm hW0 hstr
  obtain ⟨U, hsteps, hrun, hend, hW, hsame, ce, hce, hO⟩ := X₁.ctorThrowS hexec htr (own := own) (cls := cls) (names := names) (ic := ic) hown' hcls hnames h (fun x hx => nomatch hx) hfX hkX hcellA (by rw [hhp, hT]; exact Nat.le_refl _) (msg := .ref sa) rfl
    (g := { method := m, pc := pc + 7, locals := ls, stack := .ref sa :: .ref T.heap.size :: .ref T.heap.size :: rest, locked := none }) rfl hsize rfl rfl (rest := rest) rfl
    (by rw [hb]; exact d7) (by rw [hb]; exact d10) hout hRframes (by simp only [List.map_cons, List.sum_cons, hcat]; omega) hlocks
  obtain ⟨f1, f2⟩ := vx_frame hsame
  rw [hhp] at f1 f2
  have hWs : s.WarmedH U.vm := State.WarmedH.trans hW0 hW
  have hcl : s.vm.findClass cls = some ce.cls := by
    have h9 := hO.cls
    rw [hvm] at h9
    exact h9
  have hall : s.sameButNew ({ U with vm := s.vm } : State) locs mc ms := by
    subst hA
    obtain ⟨e1, e2⟩ := hsame
    rw [State.setFrames_setFrames] at e1
    have h2 : (T.setVm s.vm).sameButNew ({ U with vm := s.vm } : State) [] (0 + 1) (0 + 6) := ⟨e1, e2⟩
    have h3 := X.same.trans h2
    rw [List.append_nil] at h3
    exact h3.mono hc hs
  refine ⟨U, ?_, .threw T.heap.size, hrun, hend, Or.inr ⟨T.heap.size, rfl, cls, ce, locs, hx U hWs.alike f1 (fun q hq => f2 q hq (fun z hz => nomatch hz)), hce, hO.vm, hcl, hWs, hall, hf⟩⟩
  refine st1 _ ?_
  show Steps p.tables e below (T1.setTop { method := m, pc := pc + 3, locals := ls, stack := .ref T.heap.size :: rest, locked := none }) _
  jvm_step X₁.here [X₁.here.top, hexec, d3', Value.category]
  exact X₁.ldcStringW hexec (own := own) (text := text) (index := is) (a := sa) hown' hstr'.1 hstr'.2
    (g := { method := m, pc := pc + 4, locals := ls, stack := .ref T.heap.size :: .ref T.heap.size :: rest, locked := none }) rfl d4' _ hsteps
end Ends
section Bodies
variable {l : Launch}
theorem vx_ofW {y : MethodName} {ws ws' : List Cond} {rm : Room} {Pc : Array Value → State → Prop} {Qc : Array Value → State → Outcome → State → Prop} {XC : String → State → State → Prop} {mc ms : Nat} {free : Addr → Prop} {cc : ByteArray} {maxL : Nat} {ret : Option FieldType}
    (hy : plainName y.cls = true) (hw : ws = Cond.code y cc maxL ret :: ws')
    (body : ∀ p e s m args below meth c s₁, BodyLoose p l y (headSpec ws rm) cc maxL ret e s m args below meth c s₁ → c.maxLocals = maxL → (∀ x ∈ c.exceptionTable.toList, False) → Pc args s →
      W p l e (headSpec ws rm).room s m args below meth c s.heap [] 0 0 (vx_MQ below Qc XC args s mc ms free) (entryFrame m args maxL)) : vx_Met l y ws rm Pc Qc XC mc ms free := by
  refine MetFree.of_bodyS (code := cc) (maxLocals := maxL) (ret := ret) hy ?_ ?_
  · intro args s m h hn
    obtain ⟨meth, c, h1, h2, h3, h4, h5, h6, -, -⟩ := Cond.code_spec hn (atoms_spec (ws := ws) h _ (by rw [hw]; exact List.mem_cons_self))
    exact ⟨meth, c, h1, h2, h3, h4, h5, h6⟩
  · intro p e s m args below meth c s₁ B hml hP _
    have hh0 : s₁.heap = s.heap := by rw [B.state]; rfl
    have ht : ∀ x ∈ c.exceptionTable.toList, False := by
      obtain ⟨meth9, c9, h1, h2, -, -, -, -, h7, -⟩ := Cond.code_spec B.named (atoms_spec (ws := ws) B.pre _ (by rw [hw]; exact List.mem_cons_self))
      cases Option.some.inj (h1.symm.trans B.method)
      cases Option.some.inj (h2.symm.trans (Stand.of_body B).code)
      intro x hx
      rw [Array.isEmpty_iff.mp h7] at hx
      cases hx
    obtain ⟨t, a1, o, b1, b2, b3⟩ := body p e s m args below meth c s₁ B hml ht hP s₁ hh0 (Stand.of_body B)
    exact ⟨t, o, a1, b1, b2, b3⟩
/-- the table of a body with handlers -/
theorem vx_table {p : Program} {x y : MethodName} {S : Spec} {cc bytes : ByteArray} {maxL maxL' : Nat} {ret ret' : Option FieldType} {e : Env} {s s₁ : State} {m : MethodId} {args : Array Value} {below : List Frame} {meth : Method} {c : Code} {hh : List (Nat × Nat × Nat × Nat)}
    (B : BodyLoose p l y S cc maxL ret e s m args below meth c s₁) (h : (Cond.codeWith y bytes maxL' ret' hh).before args s = true) : c.exceptionTable.toList = tableOf hh := by
  obtain ⟨m9, meth9, c9, hn9, h1, h2, -, -, h6, -⟩ := Cond.codeWith_spec h
  cases Option.some.inj (hn9.symm.trans B.named)
  cases Option.some.inj (h1.symm.trans B.method)
  cases Option.some.inj (h2.symm.trans (Stand.of_body B).code)
  rw [← h6, table_eq]
end Bodies
end VXA
/-! ===== END ===== -/
/-! ===== BEGIN a static call of a method with an exception table ===== -/
section VXS
variable {p : Program} {l : Launch} {e : Env} {R : Room} {s : State} {m : MethodId} {args : Array Value} {below : List Frame} {meth : Method} {c : Code} {T : State} {H : Heap} {locs : List Loc} {cells slots : Nat}
abbrev vx_CSW (R : Room) (s : State) (args : Array Value) (own : String) (index : Nat) (y : MethodName) (bytes : ByteArray) (maxL : Nat) (ret : Option FieldType) (hh : List (Nat × Nat × Nat × Nat)) (ws : List Cond) (rm : Room) (mc ms n : Nat) : Prop :=
  (rm.cells = mc ∧ rm.slots = ms ∧ rm.frames + 1 ≤ R.frames ∧ 8 + (maxL + 11) + rm.locals ≤ R.locals ∧ (∀ w ∈ ws, ∀ (a' : Array Value) (U : State), s.WarmedH U.vm → w.before a' U = true) ∧ Cond.codeWith y bytes maxL ret hh ∈ ws) ∧
  (Cond.codeWith y bytes maxL ret hh).before args s = true ∧ (Cond.initialized y.cls).before args s = true ∧ (y.cls ≠ "java/lang/invoke/MethodHandle" ∧ y.cls ≠ "java/lang/invoke/VarHandle") ∧
  (∀ sig, parseMethodDescriptor y.desc = some sig → n = sig.parameters.length) ∧ (Cond.methodLink own index y).before args s = true ∧ (Cond.static y).before args s = true
theorem vx_cwSW {own : String} {index maxL mc ms : Nat} {y : MethodName} {bytes : ByteArray} {ret : Option FieldType} {hh : List (Nat × Nat × Nat × Nat)} {Ts ws ws' : List Cond} {rm : Room} (n : Nat) (ht : ∀ w ∈ Ts, w.before args s = true) (hT : GoodIn Ts (va_wsS own index y ws)) (hw : ws = Cond.codeWith y bytes maxL ret hh :: ws') (hrc : rm.cells = mc) (hrs : rm.slots = ms)
    (hd : y.cls ≠ "java/lang/invoke/MethodHandle" ∧ y.cls ≠ "java/lang/invoke/VarHandle" ∧ (parseMethodDescriptor y.desc).map (fun d => d.parameters.length) = some n) (hR : rm.frames + 1 ≤ R.frames ∧ 8 + (maxL + 11) + rm.locals ≤ R.locals) :
    vx_CSW R s args own index y bytes maxL ret hh ws rm mc ms n := by
  have ok : ∀ w ∈ va_wsS own index y ws, w.before args s = true := fun w h => ht w (hT w h).1
  have hG : GoodIn Ts ws := fun w h => hT w (by unfold va_wsS; exact List.mem_append_right _ h)
  have hc : Cond.codeWith y bytes maxL ret hh ∈ ws := by rw [hw]; exact List.mem_cons_self
  refine ⟨⟨hrc, hrs, hR.1, hR.2, pay_in ht hG, hc⟩, ht _ (hG _ hc).1, ok _ (by simp [va_wsS]), ⟨hd.1, hd.2.1⟩, fun sig h => ?_, ok _ (by simp [va_wsS]), ok _ (by simp [va_wsS])⟩
  have h2 := hd.2.2
  rw [h] at h2
  exact (Option.some.inj h2).symm
theorem vx_callSW (X : Stand p l e R s m args below meth c T locs cells slots) (hexec : p.tables.exec = Jvm.exec) {own : String} {index : Nat} {y : MethodName} {bytes : ByteArray} {maxL : Nat} {ret : Option FieldType} {hh : List (Nat × Nat × Nat × Nat)}
    (hown : s.vm.findClass own = some m.cls) (hlink : (Cond.methodLink own index y).before args s = true) (hstat : (Cond.static y).before args s = true) (hinit : (Cond.initialized y.cls).before args s = true)
    (hcode : (Cond.codeWith y bytes maxL ret hh).before args s = true) (hy : y.cls ≠ "java/lang/invoke/MethodHandle" ∧ y.cls ≠ "java/lang/invoke/VarHandle")
    {W9 : Nat} {Pre : Pt → Array Value → Prop} {Post : Pt → Array Value → Option Value → Pt → Prop} (hK : Back l R p e below s args y 3 W9 Pre Post)
    {g : JFrame} (hg : g.method = m) (hsize : g.locals.size = c.maxLocals) {argsL rest : List Value} (hlen : ∀ sig, parseMethodDescriptor y.desc = some sig → argsL.length = sig.parameters.length)
    (hstack : g.stack = argsL.reverse ++ rest) (hW : 2 * g.monitorRoom + (rest.map fun v => v.category).sum ≤ W9) (hdg : decode c.code g.pc = .ok (.invokestatic index, 3))
    (hpre : ∀ vm₁, s.WarmedH vm₁ → Pre ⟨T.setVm vm₁, locs, cells, slots⟩ argsL.toArray) :
    ∃ (v : Option Value) (vm₁ : Vm) (B : Pt), s.WarmedH vm₁ ∧ Stand p l e R s m args below meth c B.U B.locs B.cells B.slots ∧ Post ⟨T.setVm vm₁, locs, cells, slots⟩ argsL.toArray v B ∧
      ∀ target, Steps p.tables e below (B.U.setTop { g with pc := g.pc + 3, stack := v.toList ++ rest }) target → Steps p.tables e below (T.setTop g) target := by
  obtain ⟨mk, methM, cM, hnamed, hmethM, -, -, -, -, -, -, hsigM⟩ := Cond.codeWith_spec hcode
  have hstatic : methM.isStatic = true := Cond.static_spec hnamed hmethM hstat
  obtain ⟨kP, hkP, -⟩ := className_of_methodNamed hnamed
  have hinitP : kP.init = .initialized := Cond.initialized_spec (findClass_of_methodNamed hnamed) hkP hinit
  obtain ⟨vm₁, X₁, hstep₁⟩ := X.invokestatic hexec hown hlink hnamed hmethM hstatic hkP hinitP hy (g := g) hg (argsL := argsL) (rest := rest) (hlen _ hsigM) hstack hdg
  obtain ⟨v, B, X', hpost, hsteps⟩ := hK m meth c ⟨T.setVm vm₁, locs, cells, slots⟩ { g with stack := rest } (.invokestatic index) mk argsL.toArray X₁ hg hsize hdg hW (X₁.named hnamed) (hpre vm₁ X₁.warmed)
  exact ⟨v, vm₁, B, X₁.warmed, X', hpost, fun target h => hstep₁ _ fun acts => by rw [doInvoke_state]; exact hsteps.trans h⟩
theorem vx_runSW {y : MethodName} {bytes cc : ByteArray} {maxL nL mc ms n index : Nat} {ret : Option FieldType} {hh : List (Nat × Nat × Nat × Nat)} {ws : List Cond} {rm : Room} {Pc : Array Value → State → Prop} {Qc : Array Value → State → Outcome → State → Prop} {free : Addr → Prop} {Ts : List Cond} {own : String} {As rest : List Value} {g : JFrame}
    (S : CallFix p m c cc nL s args Ts own) (hM : Met l y ws rm Pc Qc mc ms free) (cw : vx_CSW R s args own index y bytes maxL ret hh ws rm mc ms n) (hp : PreS s H Pc As)
    (hg : g.method = m) (hn : As.length = n) (hsize : g.locals.size = nL) (hstack : g.stack = As.reverse ++ rest) (hW : 2 * g.monitorRoom + (rest.map fun v => v.category).sum ≤ 8) (hdg : decode cc g.pc = .ok (.invokestatic index, 3)) (hf : cells + mc ≤ R.cells ∧ slots + ms ≤ R.slots) :
    va_Run p l e R s m args below meth c H locs cells slots mc ms g rest (Qc As.toArray) (free) := by
  obtain ⟨⟨hrc, hrs, hfr, hlo, hws, hcw⟩, hcode, hini, hy, hlen, hl, hstt⟩ := cw
  have hK : Back l R p e below s args y 3 8 (PreOf R mc ms Pc) (PostOf Qc mc ms free) := va_backW (hh := hh) (bytes := bytes) (maxL := maxL) (ret := ret) hM hp.1 hrc hrs hfr hlo hws hcw (fun a' U hW => word_at hW (Or.inl (by first | rfl | simp [Cond.onTables, Cond.keeps, Cond.steady])) hini)
  obtain ⟨hx, hb, hml, ho, -⟩ := S
  intro T hT X
  obtain ⟨v, vm₁, ⟨U', l2, c2, s2⟩, hW₁, X', ⟨g', mk, t, L, e1, e2, hq, h1, hL, h2, h3⟩, st⟩ := vx_callSW X hx (hh := hh) (bytes := bytes) (maxL := maxL) (ret := ret) ho hl hstt hini hcode hy hK hg (hsize.trans hml.symm) (argsL := As) (rest := rest) (fun sig h => hn.trans (hlen sig h)) hstack hW (by rw [hb]; exact hdg)
    (fun vm₁ hW₁ => ⟨hf.1, hf.2, hp.2 (T.setVm vm₁) hT hW₁⟩)
  dsimp only [Pt.U, Pt.locs, Pt.cells, Pt.slots] at X' e1 e2 h1 h2 h3 st
  subst h1; subst h2; subst h3
  exact ⟨v, (T.setVm vm₁).calling g' mk As.toArray, t, U', L, hT, X', hL, e1, e2, hq, st⟩
/-- not caught here, past rows that name other classes: it goes on to the caller -/
theorem vx_outP {p : Program} {l : Launch} {e : Env} {R : Room} {s : State} {m : MethodId} {args : Array Value} {below : List Frame} {meth : Method} {c : Code} {H : Heap} {locs : List Loc} {cells slots : Nat} {free : Addr → Prop} {ls : Array Slot} {rest : List Value} {Qc : Array Value → State → Outcome → State → Prop} {XC : String → State → State → Prop}
    {pc : Nat} {own E : String} {ce : Cell} {q : Addr} {mc ms : Nat} (hown : s.vm.findClass own = some m.cls) (hlocks : meth.locks = false)
    (hpass : ∀ z ∈ c.exceptionTable.toList, covers z pc = false ∨ (z.catchType ≠ 0 ∧ ∃ nm : String, (Cond.classLink own z.catchType nm).before args s = true ∧ va_Nc E nm s)) (hcell : H[q]? = some ce) (hv : ce.vm = .none) (hcl : s.vm.findClass E = some ce.cls)
    (hx : ∀ t : State, t.heap = H → s.vm.Alike t.vm → XC E s t) (hf : ∀ z ∈ locs, free z.base) (hc : cells ≤ mc) (hs : slots ≤ ms) :
    vx_W p l e R s m args below meth c H locs cells slots (vx_MQ below Qc XC args s mc ms free) (F0 m pc ls rest) q := by
  intro T hT X
  have hpl : e.platform.magicAccessors = ({} : Platform).magicAccessors := by rw [X.admits.platform]
  obtain ⟨vm', hW', X', st⟩ := X.outThrough hlocks q (g := F0 m pc ls rest) rfl rfl rfl (cell := ce) (by rw [hT]; exact hcell) (by rw [hv]; rfl)
    (by obtain ⟨k9, h9, -⟩ := Vm.findClass_spec hcl; exact ⟨k9, h9⟩) (fun z hz => by
      rcases hpass z hz with h | ⟨hz0, nm, hl1, hn1⟩
      · exact Or.inl h
      · obtain ⟨c6, hc6, hcl6⟩ := Cond.classLink_spec hown hl1 e.platform hpl
        obtain ⟨a8, b8, h1, h2, h3⟩ := hn1
        cases Option.some.inj (h1.symm.trans hcl)
        cases Option.some.inj (h2.symm.trans hc6)
        exact Or.inr ⟨hz0, _, hcl6, h3⟩)
  obtain ⟨g₀, hfr⟩ := X'.frames_eq
  have hcell9 : ((T.setVm vm').setFrames (.throwing q :: below)).heap[q]? = some ce := by
    show T.heap[q]? = some ce
    rw [hT]; exact hcell
  have hend : Ended ((T.setVm vm').setFrames (.throwing q :: below)) below (.threw q) := State.frames_setFrames _ (State.cur_lt_of_frames hfr)
  refine ⟨(T.setVm vm').setFrames (.throwing q :: below), ?_, .threw q, X'.here.running, hend, Or.inr ⟨q, rfl, E, ce, locs, hx _ hT (X'.ends _).1.alike, hcell9, hv, hcl, (X'.ends _).1, (X'.ends _).2.mono hc hs, hf⟩⟩
  rw [X.pushThrowing_eq]
  exact st
/-- a thing of a world lies in the heap -/
theorem vx_lt {D : va_G} {cl : List vw_C} {ws : va_W} {H1 : Heap} (h : va_P D cl ws H1) {k : Nat} {q : Nat × va_E} (hk : ws[k]? = some q) : q.1 < H1.size := (h k q hk).lt
end VXS
/-! ===== END ===== -/
/-! ===== BEGIN methods with a table of their own: called by a name, returning or throwing ===== -/
section VXH
/-! vx_backW, vx_callVX, vx_callSX, vx_callVW, vx_runVW, vx_runVX, vx_runSX, vx_ofWH follow the same proofs as their sisters above (Free/Laws.lean, Shelf42/LK1.lean); vx_outP calls Shelf42/NT130.lean (outThrough). -/
section
variable {l : Launch} {R : Room} {p : Program} {e : Env} {below : List Frame} {s : State} {sargs : Array Value} {y : MethodName} {len W9 : Nat}
theorem vx_backW {ws : List Cond} {rm : Room} {Pc : Array Value → State → Prop} {Qc : Array Value → State → Outcome → State → Prop} {XC : String → State → State → Prop} {mc ms : Nat} {free : Addr → Prop} {bytes : ByteArray} {maxL : Nat} {ret : Option FieldType} {hh : List (Nat × Nat × Nat × Nat)}
    (hM : vx_Met l y ws rm Pc Qc XC mc ms free) (hblind : FrameBlind Pc) (hrc : rm.cells = mc) (hrs : rm.slots = ms)
    (hframes : rm.frames + 1 ≤ R.frames) (hlocals : W9 + (maxL + 11) + rm.locals ≤ R.locals)
    (hws : ∀ w ∈ ws, ∀ a' U, s.WarmedH U.vm → w.before a' U = true) (hcode : Cond.codeWith y bytes maxL ret hh ∈ ws) (hinit : ∀ a' U, s.WarmedH U.vm → (Cond.initialized y.cls).before a' U = true) :
    vx_Back l R p e below s sargs y len W9 (PreOf R mc ms Pc) (PostOf Qc mc ms free) (vx_Post XC mc ms free) := by
  intro m meth c A g ig mk a X hg hsize hdg hW hn hp
  have h1 : (headSpec ws rm).pre.before a A.U = true := atoms_intro fun w hw => hws w hw _ _ X.warmed
  have h2 : (Cond.codeWith y bytes maxL ret hh).before a A.U = true := hws _ hcode _ _ X.warmed
  have h3 : (Cond.initialized y.cls).before a A.U = true := hinit _ _ X.warmed
  have h4 : A.cells + (headSpec ws rm).room.cells ≤ R.cells := by rw [show (headSpec ws rm).room.cells = mc from hrc]; exact hp.1
  have h5 : A.slots + (headSpec ws rm).room.slots ≤ R.slots := by rw [show (headSpec ws rm).room.slots = ms from hrs]; exact hp.2.1
  have hPc : Pc a (A.U.calling g mk a) := hblind _ _ _ _ hp.2.2
  obtain ⟨U, Ls, c0, s0⟩ := A
  dsimp only [Pt.U, Pt.locs, Pt.cells, Pt.slots] at h1 h2 h3 h4 h5 X hn hPc ⊢
  obtain ⟨m9, methY, cY, hn9, hmY, hcY, -, hlY, -⟩ := Cond.codeWith_spec h2
  cases Option.some.inj (hn9.symm.trans hn)
  obtain ⟨kY, hkY, -⟩ := className_of_methodNamed hn
  have hinitY : kY.init = .initialized := Cond.initialized_spec (findClass_of_methodNamed hn) hkY h3
  have h : At U g.method c below := by rw [hg]; exact X.here
  have hlocals9 : W9 + (maxL + 11) + (headSpec ws rm).room.locals ≤ R.locals := hlocals
  have happ : (headSpec ws rm).appliesLoose y e.platform (U.calling g mk a) = true :=
    Spec.appliesLoose_calling (g := g) h hdg hn hkY hinitY
      (X.room_calling (g := g) (R' := (headSpec ws rm).room) hsize hmY hcY hframes (by rw [hlY]; omega) h4 h5) h1
  obtain ⟨mid, hmid⟩ := h.above
  have hfr : (U.setTop g).frames = (.java g :: mid) ++ below := by rw [State.frames_setTop' g h.top, hmid]; rfl
  obtain ⟨o, s₂, hsteps, -, hend, hq⟩ := Steps.callFree hM p X.admits X.cas X.clock (acts := []) hfr happ hPc trivial
  have hq' : vx_Q Qc XC mc ms free a (U.calling g mk a) o s₂ := hq
  rw [State.frames_setTop' g h.top] at hend
  obtain ⟨g₀, hg0⟩ := Option.isSome_iff_exists.mp h.top
  obtain ⟨r, hr⟩ := State.topJava?_eq_some.mp hg0
  have hr' : (({ U with heap := s₂.heap, slotsUsed := s₂.slotsUsed } : State).setVm s₂.vm).frames = .java g₀ :: r := hr
  rcases hq' with ⟨hqc, L, hfe, hL⟩ | ⟨q, rfl, E, ce, L, hx, hce, hcv, hcl, hW₂, hsm, hL⟩
  · obtain ⟨⟨v, rfl⟩, hW₂, e2, q2, q3, q4, q5, q6⟩ := id hfe
    have e3 : s₂ = ({ (U.calling g mk a).setFrames s₂.frames with heap := s₂.heap, slotsUsed := s₂.slotsUsed } : State).setVm s₂.vm := by
      have : s₂ = ({ s₂ with vm := (U.calling g mk a).vm } : State).setVm s₂.vm := rfl
      rw [e2] at this
      exact this
    obtain ⟨c₂, i₂, len₂, hc₂, hd₂, hf₂⟩ := hend
    have hW' : U.WarmedH s₂.vm := hW₂
    have hcc : c₂ = c := by
      have h1 : s₂.code? g.method = U.code? g.method := by
        rw [State.code?_eq, State.code?_eq, hW'.alike.method?]
      exact Option.some.inj (hc₂.symm.trans (h1.trans h.code))
    subst hcc
    have hlen : len₂ = len := by rw [hdg] at hd₂; cases hd₂; rfl
    subst hlen
    have hs₂ : s₂ = (({ U with heap := s₂.heap, slotsUsed := s₂.slotsUsed } : State).setVm s₂.vm).setTop { g with pc := g.pc + len₂, stack := v.toList ++ g.stack } := by
      refine e3.trans ?_
      rw [hf₂, State.calling_eq h.top, State.setFrames_setFrames, State.setTop_of_frames _ hr', hr]
      rfl
    have hsame : U.sameButNew ({ U with heap := s₂.heap, slotsUsed := s₂.slotsUsed } : State) L mc ms := by
      refine ⟨?_, q2, q3, q4, q5, q6⟩
      obtain ⟨t, ht, -⟩ := State.frames_cons hr
      show ({ U with heap := s₂.heap, slotsUsed := s₂.slotsUsed } : State) = { U.setFrames U.frames with heap := s₂.heap, slotsUsed := s₂.slotsUsed }
      rw [State.setFrames_self ht]
    subst hg
    refine Or.inl ⟨v, ⟨(({ U with heap := s₂.heap, slotsUsed := s₂.slotsUsed } : State).setVm s₂.vm), Ls ++ L, c0 + mc, s0 + ms⟩,
      ⟨X.admits, X.cas, X.clock, X.frames, X.room, X.hears, X.method, X.code, (X.here.setHeapUsed s₂.heap s₂.slotsUsed).setVm hW'.alike, X.tail, State.WarmedH.trans X.warmed hW', X.limits, X.bytes, X.same.trans (hsame.setVm s.vm)⟩,
      ⟨g, mk, s₂, L, rfl, rfl, hqc, rfl, hL, rfl, rfl⟩, ?_⟩
    show Steps p.tables e below _ ((({ U with heap := s₂.heap, slotsUsed := s₂.slotsUsed } : State).setVm s₂.vm).setTop { g with pc := g.pc + len₂, stack := v.toList ++ g.stack })
    rw [← hs₂]
    exact hsteps
  · obtain ⟨e2, q2, q3, q4, q5, q6⟩ := id hsm
    have e3 : s₂ = ({ (U.calling g mk a).setFrames s₂.frames with heap := s₂.heap, slotsUsed := s₂.slotsUsed } : State).setVm s₂.vm := by
      have : s₂ = ({ s₂ with vm := (U.calling g mk a).vm } : State).setVm s₂.vm := rfl
      rw [e2] at this
      exact this
    have hf₂ : s₂.frames = .throwing q :: .java g :: U.frames.tail := hend
    have hW' : U.WarmedH s₂.vm := hW₂
    have hs₂ : s₂ = ((({ U with heap := s₂.heap, slotsUsed := s₂.slotsUsed } : State).setVm s₂.vm).setTop g).pushFrame (.throwing q) := by
      refine e3.trans ?_
      rw [hf₂, State.calling_eq h.top, State.setFrames_setFrames, State.pushFrame, State.frames_setTop _ hr', State.setTop_of_frames _ hr', State.setFrames_setFrames, hr]
      rfl
    have hsame : U.sameButNew ({ U with heap := s₂.heap, slotsUsed := s₂.slotsUsed } : State) L mc ms := by
      refine ⟨?_, q2, q3, q4, q5, q6⟩
      obtain ⟨t, ht, -⟩ := State.frames_cons hr
      show ({ U with heap := s₂.heap, slotsUsed := s₂.slotsUsed } : State) = { U.setFrames U.frames with heap := s₂.heap, slotsUsed := s₂.slotsUsed }
      rw [State.setFrames_self ht]
    subst hg
    refine Or.inr ⟨q, ⟨(({ U with heap := s₂.heap, slotsUsed := s₂.slotsUsed } : State).setVm s₂.vm), Ls ++ L, c0 + mc, s0 + ms⟩,
      ⟨X.admits, X.cas, X.clock, X.frames, X.room, X.hears, X.method, X.code, (X.here.setHeapUsed s₂.heap s₂.slotsUsed).setVm hW'.alike, X.tail, State.WarmedH.trans X.warmed hW', X.limits, X.bytes, X.same.trans (hsame.setVm s.vm)⟩,
      ⟨g, mk, s₂, L, E, ce, rfl, rfl, hx, hce, hcv, hcl, rfl, hL, rfl, rfl⟩, ?_⟩
    show Steps p.tables e below _ (((({ U with heap := s₂.heap, slotsUsed := s₂.slotsUsed } : State).setVm s₂.vm).setTop g).pushFrame (.throwing q))
    rw [← hs₂]
    exact hsteps
end
variable {p : Program} {l : Launch} {e : Env} {R : Room} {s : State} {m : MethodId} {args : Array Value} {below : List Frame} {meth : Method} {c : Code} {T : State} {H : Heap} {locs : List Loc} {cells slots : Nat}
theorem vx_callVX (X : Stand p l e R s m args below meth c T locs cells slots) (hexec : p.tables.exec = Jvm.exec) {own C : String} {index : Nat} {y : MethodName} {bytes : ByteArray} {maxL : Nat} {ret : Option FieldType} {hh : List (Nat × Nat × Nat × Nat)}
    (hown : s.vm.findClass own = some m.cls) (hlink : (Cond.methodLink own index y).before args s = true) (hinst : (Cond.instanceMethod y).before args s = true) (hsel : (Cond.selects C y y).before args s = true)
    (hcode : (Cond.codeWith y bytes maxL ret hh).before args s = true) (hy : y.cls ≠ "java/lang/invoke/MethodHandle" ∧ y.cls ≠ "java/lang/invoke/VarHandle")
    {W9 : Nat} {Pre : Pt → Array Value → Prop} {Post : Pt → Array Value → Option Value → Pt → Prop} {PostX : Pt → Array Value → Addr → Pt → Prop} (hK : vx_Back l R p e below s args y 3 W9 Pre Post PostX)
    {b : Addr} {cellB : Cell} (hcell : T.heap[b]? = some cellB) (hobj : cellB.vm.isStatics = false) (hcls : s.vm.findClass C = some cellB.cls)
    {g : JFrame} (hg : g.method = m) (hsize : g.locals.size = c.maxLocals) {argsL rest : List Value} (hlen : ∀ sig, parseMethodDescriptor y.desc = some sig → argsL.length = sig.parameters.length)
    (hstack : g.stack = argsL.reverse ++ .ref b :: rest) (hW : 2 * g.monitorRoom + (rest.map fun v => v.category).sum ≤ W9) (hdg : decode c.code g.pc = .ok (.invokevirtual index, 3))
    (hpre : ∀ vm₁, s.WarmedH vm₁ → Pre ⟨T.setVm vm₁, locs, cells, slots⟩ (Value.ref b :: argsL).toArray) :
    (∃ (v : Option Value) (vm₁ : Vm) (B : Pt), s.WarmedH vm₁ ∧ Stand p l e R s m args below meth c B.U B.locs B.cells B.slots ∧ Post ⟨T.setVm vm₁, locs, cells, slots⟩ (Value.ref b :: argsL).toArray v B ∧
      ∀ target, Steps p.tables e below (B.U.setTop { g with pc := g.pc + 3, stack := v.toList ++ rest }) target → Steps p.tables e below (T.setTop g) target) ∨
    (∃ (q : Addr) (vm₁ : Vm) (B : Pt), s.WarmedH vm₁ ∧ Stand p l e R s m args below meth c B.U B.locs B.cells B.slots ∧ PostX ⟨T.setVm vm₁, locs, cells, slots⟩ (Value.ref b :: argsL).toArray q B ∧
      Steps p.tables e below (T.setTop g) ((B.U.setTop { g with stack := rest }).pushFrame (.throwing q))) := by
  obtain ⟨mk, methM, hnamed, hmethM, hstM, habM⟩ := Cond.instanceMethod_spec hinst
  obtain ⟨m8, methM', cM, hn8, hmethM', -, -, -, -, -, -, hsigM⟩ := Cond.codeWith_spec hcode
  cases Option.some.inj (hn8.symm.trans hnamed)
  cases hmethM.symm.trans hmethM'
  obtain ⟨c2, r2, m2, q1, q2, q3, q4, kP, hkP, hkPi⟩ := Cond.selects_spec hsel
  cases hcls.symm.trans q1
  cases (State.methodFound?_of_named hnamed hy).symm.trans q2
  cases hnamed.symm.trans q3
  have hselP : selectMethod e.platform s.vm cellB.cls mk = .method mk := by rw [Launch.admits_selectMethod X.admits]; exact q4
  obtain ⟨vm₁, X₁, hstep₁⟩ := X.invokevirtual hexec hown hlink hnamed hmethM hstM hkP hkPi hy (a := b) (cell := cellB) hcell
    (fun z h => by rw [h] at hobj; cases hobj) hselP hmethM habM hkP hkPi (g := g) hg (argsL := argsL) (rest := rest) (hlen _ hsigM) hstack hdg
  rcases hK m meth c ⟨T.setVm vm₁, locs, cells, slots⟩ { g with stack := rest } (.invokevirtual index) mk (Value.ref b :: argsL).toArray X₁ hg hsize hdg hW (X₁.named hnamed) (hpre vm₁ X₁.warmed) with ⟨v, B, X', hpost, hsteps⟩ | ⟨q, B, X', hpost, hsteps⟩
  · exact Or.inl ⟨v, vm₁, B, X₁.warmed, X', hpost, fun target h => hstep₁ _ fun acts => by rw [doInvoke_state]; exact hsteps.trans h⟩
  · exact Or.inr ⟨q, vm₁, B, X₁.warmed, X', hpost, hstep₁ _ fun acts => by rw [doInvoke_state]; exact hsteps⟩
theorem vx_callSX (X : Stand p l e R s m args below meth c T locs cells slots) (hexec : p.tables.exec = Jvm.exec) {own : String} {index : Nat} {y : MethodName} {bytes : ByteArray} {maxL : Nat} {ret : Option FieldType} {hh : List (Nat × Nat × Nat × Nat)}
    (hown : s.vm.findClass own = some m.cls) (hlink : (Cond.methodLink own index y).before args s = true) (hstat : (Cond.static y).before args s = true) (hinit : (Cond.initialized y.cls).before args s = true)
    (hcode : (Cond.codeWith y bytes maxL ret hh).before args s = true) (hy : y.cls ≠ "java/lang/invoke/MethodHandle" ∧ y.cls ≠ "java/lang/invoke/VarHandle")
    {W9 : Nat} {Pre : Pt → Array Value → Prop} {Post : Pt → Array Value → Option Value → Pt → Prop} {PostX : Pt → Array Value → Addr → Pt → Prop} (hK : vx_Back l R p e below s args y 3 W9 Pre Post PostX)
    {g : JFrame} (hg : g.method = m) (hsize : g.locals.size = c.maxLocals) {argsL rest : List Value} (hlen : ∀ sig, parseMethodDescriptor y.desc = some sig → argsL.length = sig.parameters.length)
    (hstack : g.stack = argsL.reverse ++ rest) (hW : 2 * g.monitorRoom + (rest.map fun v => v.category).sum ≤ W9) (hdg : decode c.code g.pc = .ok (.invokestatic index, 3))
    (hpre : ∀ vm₁, s.WarmedH vm₁ → Pre ⟨T.setVm vm₁, locs, cells, slots⟩ argsL.toArray) :
    (∃ (v : Option Value) (vm₁ : Vm) (B : Pt), s.WarmedH vm₁ ∧ Stand p l e R s m args below meth c B.U B.locs B.cells B.slots ∧ Post ⟨T.setVm vm₁, locs, cells, slots⟩ argsL.toArray v B ∧
      ∀ target, Steps p.tables e below (B.U.setTop { g with pc := g.pc + 3, stack := v.toList ++ rest }) target → Steps p.tables e below (T.setTop g) target) ∨
    (∃ (q : Addr) (vm₁ : Vm) (B : Pt), s.WarmedH vm₁ ∧ Stand p l e R s m args below meth c B.U B.locs B.cells B.slots ∧ PostX ⟨T.setVm vm₁, locs, cells, slots⟩ argsL.toArray q B ∧
      Steps p.tables e below (T.setTop g) ((B.U.setTop { g with stack := rest }).pushFrame (.throwing q))) := by
  obtain ⟨mk, methM, cM, hnamed, hmethM, -, -, -, -, -, -, hsigM⟩ := Cond.codeWith_spec hcode
  have hstatic : methM.isStatic = true := Cond.static_spec hnamed hmethM hstat
  obtain ⟨kP, hkP, -⟩ := className_of_methodNamed hnamed
  have hinitP : kP.init = .initialized := Cond.initialized_spec (findClass_of_methodNamed hnamed) hkP hinit
  obtain ⟨vm₁, X₁, hstep₁⟩ := X.invokestatic hexec hown hlink hnamed hmethM hstatic hkP hinitP hy (g := g) hg (argsL := argsL) (rest := rest) (hlen _ hsigM) hstack hdg
  rcases hK m meth c ⟨T.setVm vm₁, locs, cells, slots⟩ { g with stack := rest } (.invokestatic index) mk argsL.toArray X₁ hg hsize hdg hW (X₁.named hnamed) (hpre vm₁ X₁.warmed) with ⟨v, B, X', hpost, hsteps⟩ | ⟨q, B, X', hpost, hsteps⟩
  · exact Or.inl ⟨v, vm₁, B, X₁.warmed, X', hpost, fun target h => hstep₁ _ fun acts => by rw [doInvoke_state]; exact hsteps.trans h⟩
  · exact Or.inr ⟨q, vm₁, B, X₁.warmed, X', hpost, hstep₁ _ fun acts => by rw [doInvoke_state]; exact hsteps⟩
theorem vx_callVW (X : Stand p l e R s m args below meth c T locs cells slots) (hexec : p.tables.exec = Jvm.exec) {own C : String} {index : Nat} {y : MethodName} {bytes : ByteArray} {maxL : Nat} {ret : Option FieldType} {hh : List (Nat × Nat × Nat × Nat)}
    (hown : s.vm.findClass own = some m.cls) (hlink : (Cond.methodLink own index y).before args s = true) (hinst : (Cond.instanceMethod y).before args s = true) (hsel : (Cond.selects C y y).before args s = true)
    (hcode : (Cond.codeWith y bytes maxL ret hh).before args s = true) (hy : y.cls ≠ "java/lang/invoke/MethodHandle" ∧ y.cls ≠ "java/lang/invoke/VarHandle")
    {W9 : Nat} {Pre : Pt → Array Value → Prop} {Post : Pt → Array Value → Option Value → Pt → Prop} (hK : Back l R p e below s args y 3 W9 Pre Post)
    {b : Addr} {cellB : Cell} (hcell : T.heap[b]? = some cellB) (hobj : cellB.vm.isStatics = false) (hcls : s.vm.findClass C = some cellB.cls)
    {g : JFrame} (hg : g.method = m) (hsize : g.locals.size = c.maxLocals) {argsL rest : List Value} (hlen : ∀ sig, parseMethodDescriptor y.desc = some sig → argsL.length = sig.parameters.length)
    (hstack : g.stack = argsL.reverse ++ .ref b :: rest) (hW : 2 * g.monitorRoom + (rest.map fun v => v.category).sum ≤ W9) (hdg : decode c.code g.pc = .ok (.invokevirtual index, 3))
    (hpre : ∀ vm₁, s.WarmedH vm₁ → Pre ⟨T.setVm vm₁, locs, cells, slots⟩ (Value.ref b :: argsL).toArray) :
    ∃ (v : Option Value) (vm₁ : Vm) (B : Pt), s.WarmedH vm₁ ∧ Stand p l e R s m args below meth c B.U B.locs B.cells B.slots ∧ Post ⟨T.setVm vm₁, locs, cells, slots⟩ (Value.ref b :: argsL).toArray v B ∧
      ∀ target, Steps p.tables e below (B.U.setTop { g with pc := g.pc + 3, stack := v.toList ++ rest }) target → Steps p.tables e below (T.setTop g) target := by
  obtain ⟨mk, methM, hnamed, hmethM, hstM, habM⟩ := Cond.instanceMethod_spec hinst
  obtain ⟨m8, methM', cM, hn8, hmethM', -, -, -, -, -, -, hsigM⟩ := Cond.codeWith_spec hcode
  cases Option.some.inj (hn8.symm.trans hnamed)
  cases hmethM.symm.trans hmethM'
  obtain ⟨c2, r2, m2, q1, q2, q3, q4, kP, hkP, hkPi⟩ := Cond.selects_spec hsel
  cases hcls.symm.trans q1
  cases (State.methodFound?_of_named hnamed hy).symm.trans q2
  cases hnamed.symm.trans q3
  have hselP : selectMethod e.platform s.vm cellB.cls mk = .method mk := by rw [Launch.admits_selectMethod X.admits]; exact q4
  obtain ⟨vm₁, X₁, hstep₁⟩ := X.invokevirtual hexec hown hlink hnamed hmethM hstM hkP hkPi hy (a := b) (cell := cellB) hcell
    (fun z h => by rw [h] at hobj; cases hobj) hselP hmethM habM hkP hkPi (g := g) hg (argsL := argsL) (rest := rest) (hlen _ hsigM) hstack hdg
  obtain ⟨v, B, X', hpost, hsteps⟩ := hK m meth c ⟨T.setVm vm₁, locs, cells, slots⟩ { g with stack := rest } (.invokevirtual index) mk (Value.ref b :: argsL).toArray X₁ hg hsize hdg hW (X₁.named hnamed) (hpre vm₁ X₁.warmed)
  exact ⟨v, vm₁, B, X₁.warmed, X', hpost, fun target h => hstep₁ _ fun acts => by rw [doInvoke_state]; exact hsteps.trans h⟩
abbrev vx_CVW (R : Room) (s : State) (args : Array Value) (own C : String) (index : Nat) (y : MethodName) (bytes : ByteArray) (maxL : Nat) (ret : Option FieldType) (hh : List (Nat × Nat × Nat × Nat)) (ws : List Cond) (rm : Room) (mc ms n : Nat) : Prop :=
  (rm.cells = mc ∧ rm.slots = ms ∧ rm.frames + 1 ≤ R.frames ∧ 8 + (maxL + 11) + rm.locals ≤ R.locals ∧ (∀ w ∈ ws, ∀ (a' : Array Value) (U : State), s.WarmedH U.vm → w.before a' U = true) ∧ Cond.codeWith y bytes maxL ret hh ∈ ws) ∧
  (Cond.codeWith y bytes maxL ret hh).before args s = true ∧ (Cond.initialized y.cls).before args s = true ∧ (y.cls ≠ "java/lang/invoke/MethodHandle" ∧ y.cls ≠ "java/lang/invoke/VarHandle") ∧
  (∀ sig, parseMethodDescriptor y.desc = some sig → n = sig.parameters.length) ∧ (Cond.methodLink own index y).before args s = true ∧ (Cond.instanceMethod y).before args s = true ∧ (Cond.selects C y y).before args s = true
theorem vx_cwVW {own C : String} {index maxL mc ms : Nat} {y : MethodName} {bytes : ByteArray} {ret : Option FieldType} {hh : List (Nat × Nat × Nat × Nat)} {Ts ws ws' : List Cond} {rm : Room} (n : Nat) (ht : ∀ w ∈ Ts, w.before args s = true) (hT : GoodIn Ts (wsV own index C y ws)) (hw : ws = Cond.codeWith y bytes maxL ret hh :: ws') (hrc : rm.cells = mc) (hrs : rm.slots = ms)
    (hd : y.cls = C ∧ y.cls ≠ "java/lang/invoke/MethodHandle" ∧ y.cls ≠ "java/lang/invoke/VarHandle" ∧ (parseMethodDescriptor y.desc).map (fun d => d.parameters.length) = some n) (hR : rm.frames + 1 ≤ R.frames ∧ 8 + (maxL + 11) + rm.locals ≤ R.locals) :
    vx_CVW R s args own C index y bytes maxL ret hh ws rm mc ms n := by
  obtain ⟨hC, hd⟩ := hd
  subst hC
  have ok : ∀ w ∈ wsV own index y.cls y ws, w.before args s = true := fun w h => ht w (hT w h).1
  have hG : GoodIn Ts ws := fun w h => hT w (by unfold wsV; exact List.mem_append_right _ h)
  have hc : Cond.codeWith y bytes maxL ret hh ∈ ws := by rw [hw]; exact List.mem_cons_self
  refine ⟨⟨hrc, hrs, hR.1, hR.2, pay_in ht hG, hc⟩, ht _ (hG _ hc).1, ok _ (by simp [wsV]), ⟨hd.1, hd.2.1⟩, fun sig h => ?_, ok _ (by simp [wsV]), ok _ (by simp [wsV]), ok _ (by simp [wsV])⟩
  have h2 := hd.2.2
  rw [h] at h2
  exact (Option.some.inj h2).symm
theorem vx_runVW {y : MethodName} {bytes cc : ByteArray} {maxL nL mc ms n index : Nat} {ret : Option FieldType} {hh : List (Nat × Nat × Nat × Nat)} {ws : List Cond} {rm : Room} {Pc : Array Value → State → Prop} {Qc : Array Value → State → Outcome → State → Prop} {free : Addr → Prop} {Ts : List Cond} {own C : String} {b : Addr} {As rest : List Value} {g : JFrame}
    (S : CallFix p m c cc nL s args Ts own) (hM : Met l y ws rm Pc Qc mc ms free) (cw : vx_CVW R s args own C index y bytes maxL ret hh ws rm mc ms n) (hp : PreV s H C b Pc As)
    (hg : g.method = m) (hn : As.length = n) (hsize : g.locals.size = nL) (hstack : g.stack = As.reverse ++ .ref b :: rest) (hW : 2 * g.monitorRoom + (rest.map fun v => v.category).sum ≤ 8) (hdg : decode cc g.pc = .ok (.invokevirtual index, 3)) (hf : cells + mc ≤ R.cells ∧ slots + ms ≤ R.slots) :
    va_Run p l e R s m args below meth c H locs cells slots mc ms g rest (Qc (Value.ref b :: As).toArray) free := by
  obtain ⟨⟨hrc, hrs, hfr, hlo, hws, hcw⟩, hcode, hini, hy, hlen, hl, hin, hse⟩ := cw
  have hK : Back l R p e below s args y 3 8 (PreOf R mc ms Pc) (PostOf Qc mc ms free) := va_backW (hh := hh) (bytes := bytes) (maxL := maxL) (ret := ret) hM hp.1 hrc hrs hfr hlo hws hcw (fun a' U hW => word_at hW (Or.inl (by first | rfl | simp [Cond.onTables, Cond.keeps, Cond.steady])) hini)
  obtain ⟨hx, hb, hml, ho, -⟩ := S
  obtain ⟨-, ⟨cellB, hcB, hoB, hclB⟩, hPc⟩ := hp
  intro T hT X
  obtain ⟨v, vm₁, ⟨U', l2, c2, s2⟩, hW₁, X', ⟨g', mk, t, L, e1, e2, hq, h1, hL, h2, h3⟩, st⟩ := vx_callVW X hx (C := C) (hh := hh) (bytes := bytes) (maxL := maxL) (ret := ret) ho hl hin hse hcode hy hK (by rw [hT]; exact hcB) hoB hclB hg (hsize.trans hml.symm) (argsL := As) (rest := rest) (fun sig h => hn.trans (hlen sig h)) hstack hW (by rw [hb]; exact hdg)
    (fun vm₁ hW₁ => ⟨hf.1, hf.2, hPc (T.setVm vm₁) hT hW₁⟩)
  dsimp only [Pt.U, Pt.locs, Pt.cells, Pt.slots] at X' e1 e2 h1 h2 h3 st
  subst h1; subst h2; subst h3
  exact ⟨v, (T.setVm vm₁).calling g' mk (Value.ref b :: As).toArray, t, U', L, hT, X', hL, e1, e2, hq, st⟩
section
variable {y : MethodName} {bytes cc : ByteArray} {maxL nL mc ms n index : Nat} {ret : Option FieldType} {ws : List Cond} {rm : Room} {Pc : Array Value → State → Prop} {Qc : Array Value → State → Outcome → State → Prop} {XC : String → State → State → Prop} {free : Addr → Prop} {Ts : List Cond} {own C : String} {b : Addr} {As rest : List Value} {g : JFrame}
theorem vx_runVX {hh : List (Nat × Nat × Nat × Nat)} (S : CallFix p m c cc nL s args Ts own) (hM : vx_Met l y ws rm Pc Qc XC mc ms free) (cw : vx_CVW R s args own C index y bytes maxL ret hh ws rm mc ms n) (hp : PreV s H C b Pc As)
    (hg : g.method = m) (hn : As.length = n) (hsize : g.locals.size = nL) (hstack : g.stack = As.reverse ++ .ref b :: rest) (hW : 2 * g.monitorRoom + (rest.map fun v => v.category).sum ≤ 8) (hdg : decode cc g.pc = .ok (.invokevirtual index, 3)) (hf : cells + mc ≤ R.cells ∧ slots + ms ≤ R.slots) :
    vx_Run p l e R s m args below meth c H locs cells slots mc ms g rest (Qc (Value.ref b :: As).toArray) XC free := by
  obtain ⟨⟨hrc, hrs, hfr, hlo, hws, hcw⟩, hcode, hini, hy, hlen, hl, hin, hse⟩ := cw
  have hK : vx_Back l R p e below s args y 3 8 (PreOf R mc ms Pc) (PostOf Qc mc ms free) (vx_Post XC mc ms free) := vx_backW (hh := hh) (bytes := bytes) (maxL := maxL) (ret := ret) hM hp.1 hrc hrs hfr hlo hws hcw (fun a' U hW => word_at hW (Or.inl (by first | rfl | simp [Cond.onTables, Cond.keeps, Cond.steady])) hini)
  obtain ⟨hx, hb, hml, ho, -⟩ := S
  obtain ⟨-, ⟨cellB, hcB, hoB, hclB⟩, hPc⟩ := hp
  intro T hT X
  rcases vx_callVX X hx (C := C) (hh := hh) (bytes := bytes) (maxL := maxL) (ret := ret) ho hl hin hse hcode hy hK (by rw [hT]; exact hcB) hoB hclB hg (hsize.trans hml.symm) (argsL := As) (rest := rest) (fun sig h => hn.trans (hlen sig h)) hstack hW (by rw [hb]; exact hdg)
    (fun vm₁ hW₁ => ⟨hf.1, hf.2, hPc (T.setVm vm₁) hT hW₁⟩) with ⟨v, vm₁, ⟨U', l2, c2, s2⟩, hW₁, X', ⟨g', mk, t, L, e1, e2, hq, h1, hL, h2, h3⟩, st⟩ | ⟨q, vm₁, ⟨U', l2, c2, s2⟩, hW₁, X', ⟨g', mk, t, L, E, ce, e1, e2, hq, hce, hcv, hcl, h1, hL, h2, h3⟩, st⟩
  · dsimp only [Pt.U, Pt.locs, Pt.cells, Pt.slots] at X' e1 e2 h1 h2 h3 st
    subst h1; subst h2; subst h3
    exact Or.inl ⟨v, (T.setVm vm₁).calling g' mk (Value.ref b :: As).toArray, t, U', L, hT, X', hL, e1, e2, hq, st⟩
  · dsimp only [Pt.U, Pt.locs, Pt.cells, Pt.slots] at X' e1 e2 h1 h2 h3 st hcl
    subst h1; subst h2; subst h3
    exact Or.inr ⟨q, (T.setVm vm₁).calling g' mk (Value.ref b :: As).toArray, t, U', L, E, ce, hT, X', hL, e1, e2, hq, hce, hcv, vx_cls hW₁ hcl, st⟩
theorem vx_runSX {hh : List (Nat × Nat × Nat × Nat)} (S : CallFix p m c cc nL s args Ts own) (hM : vx_Met l y ws rm Pc Qc XC mc ms free) (cw : vx_CSW R s args own index y bytes maxL ret hh ws rm mc ms n) (hp : PreS s H Pc As)
    (hg : g.method = m) (hn : As.length = n) (hsize : g.locals.size = nL) (hstack : g.stack = As.reverse ++ rest) (hW : 2 * g.monitorRoom + (rest.map fun v => v.category).sum ≤ 8) (hdg : decode cc g.pc = .ok (.invokestatic index, 3)) (hf : cells + mc ≤ R.cells ∧ slots + ms ≤ R.slots) :
    vx_Run p l e R s m args below meth c H locs cells slots mc ms g rest (Qc As.toArray) XC free := by
  obtain ⟨⟨hrc, hrs, hfr, hlo, hws, hcw⟩, hcode, hini, hy, hlen, hl, hstt⟩ := cw
  have hK : vx_Back l R p e below s args y 3 8 (PreOf R mc ms Pc) (PostOf Qc mc ms free) (vx_Post XC mc ms free) := vx_backW (hh := hh) (bytes := bytes) (maxL := maxL) (ret := ret) hM hp.1 hrc hrs hfr hlo hws hcw (fun a' U hW => word_at hW (Or.inl (by first | rfl | simp [Cond.onTables, Cond.keeps, Cond.steady])) hini)
  obtain ⟨hx, hb, hml, ho, -⟩ := S
  intro T hT X
  rcases vx_callSX X hx (hh := hh) (bytes := bytes) (maxL := maxL) (ret := ret) ho hl hstt hini hcode hy hK hg (hsize.trans hml.symm) (argsL := As) (rest := rest) (fun sig h => hn.trans (hlen sig h)) hstack hW (by rw [hb]; exact hdg)
    (fun vm₁ hW₁ => ⟨hf.1, hf.2, hp.2 (T.setVm vm₁) hT hW₁⟩) with ⟨v, vm₁, ⟨U', l2, c2, s2⟩, hW₁, X', ⟨g', mk, t, L, e1, e2, hq, h1, hL, h2, h3⟩, st⟩ | ⟨q, vm₁, ⟨U', l2, c2, s2⟩, hW₁, X', ⟨g', mk, t, L, E, ce, e1, e2, hq, hce, hcv, hcl, h1, hL, h2, h3⟩, st⟩
  · dsimp only [Pt.U, Pt.locs, Pt.cells, Pt.slots] at X' e1 e2 h1 h2 h3 st
    subst h1; subst h2; subst h3
    exact Or.inl ⟨v, (T.setVm vm₁).calling g' mk As.toArray, t, U', L, hT, X', hL, e1, e2, hq, st⟩
  · dsimp only [Pt.U, Pt.locs, Pt.cells, Pt.slots] at X' e1 e2 h1 h2 h3 st hcl
    subst h1; subst h2; subst h3
    exact Or.inr ⟨q, (T.setVm vm₁).calling g' mk As.toArray, t, U', L, E, ce, hT, X', hL, e1, e2, hq, hce, hcv, vx_cls hW₁ hcl, st⟩
end
end VXH
theorem vx_ofWH {l : Launch} {y : MethodName} {ws ws' : List Cond} {rm : Room} {Pc : Array Value → State → Prop} {Qc : Array Value → State → Outcome → State → Prop} {XC : String → State → State → Prop} {mc ms : Nat} {free : Addr → Prop} {cc : ByteArray} {maxL : Nat} {ret : Option FieldType} {hh : List (Nat × Nat × Nat × Nat)}
    (hy : plainName y.cls = true) (hw : ws = Cond.codeWith y cc maxL ret hh :: ws')
    (body : ∀ p e s m args below meth c s₁, BodyLoose p l y (headSpec ws rm) cc maxL ret e s m args below meth c s₁ → c.maxLocals = maxL → Pc args s →
      W p l e (headSpec ws rm).room s m args below meth c s.heap [] 0 0 (vx_MQ below Qc XC args s mc ms free) (entryFrame m args maxL)) : vx_Met l y ws rm Pc Qc XC mc ms free := by
  refine MetFree.of_bodyS (code := cc) (maxLocals := maxL) (ret := ret) hy ?_ ?_
  · intro args s m h hn
    obtain ⟨m9, meth, c, hn9, h1, h2, h3, h4, -, h5, h6, -⟩ := Cond.codeWith_spec (atoms_spec (ws := ws) h _ (by rw [hw]; exact List.mem_cons_self))
    cases hn.symm.trans hn9
    exact ⟨meth, c, h1, h2, h3, h4, h5, h6⟩
  · intro p e s m args below meth c s₁ B hml hP _
    have hh0 : s₁.heap = s.heap := by rw [B.state]; rfl
    obtain ⟨t, a1, o, b1, b2, b3⟩ := body p e s m args below meth c s₁ B hml hP s₁ hh0 (Stand.of_body B)
    exact ⟨t, o, a1, b1, b2, b3⟩
/-! ===== END ===== -/

/-! ===== BEGIN printed: names, fields, word lists, decode rows ===== -/
end
section
def RX0 : String := "GlassHarp$Orchestra"
def TX0 : u_T := fun k => match k with
  | 0 => ("GlassHarp$Orchestra", "score", "LGlassHarp$Score;", true)
  | 1 => ("GlassHarp$Orchestra", "rows", "[I", true)
  | 2 => ("GlassHarp$Orchestra", "sizes", "[I", true)
  | 3 => ("GlassHarp$Orchestra", "drops", "[I", true)
  | 4 => ("GlassHarp$Orchestra", "cracked", "[Z", true)
  | 5 => ("GlassHarp$Orchestra", "rings", "[I", true)
  | 6 => ("GlassHarp$Orchestra", "plays", "[I", true)
  | 7 => ("GlassHarp$Orchestra", "busy", "[Z", true)
  | 8 => ("GlassHarp$Orchestra", "air", "[I", true)
  | 9 => ("GlassHarp$Orchestra", "pumps", "[I", true)
  | 10 => ("GlassHarp$Orchestra", "glasses", "I", false)
  | 11 => ("GlassHarp$Orchestra", "beat", "I", false)
  | 12 => ("GlassHarp$Orchestra", "played", "I", false)
  | 13 => ("GlassHarp$Orchestra", "inTune", "I", false)
  | _ => ("GlassHarp$Orchestra", "missed", "I", false)
def tyX0 : Nat → FieldType := fun k => match k with
  | 0 => .object "GlassHarp$Score"
  | 1 => .array .int
  | 2 => .array .int
  | 3 => .array .int
  | 4 => .array .boolean
  | 5 => .array .int
  | 6 => .array .int
  | 7 => .array .boolean
  | 8 => .array .int
  | 9 => .array .int
  | 10 => .int
  | 11 => .int
  | 12 => .int
  | 13 => .int
  | _ => .int
abbrev wsX00 : List Cond := u_ws RX0 TX0 15
theorem nmX0 : ∀ a, a < 15 → ∀ b, b < 15 → a ≠ b → (TX0 a).2.1 ≠ (TX0 b).2.1 := by decide +kernel
theorem tyX0_ok : ∀ k, k < 15 → parseFieldDescriptor (TX0 k).2.2.1 = some (tyX0 k) := by decide +kernel
abbrev cX0_init : ByteArray := prog_2_method_1_code
def yX0_init : MethodName := ⟨RX0, "<init>", "(LGlassHarp$Score;)V"⟩
abbrev cX0_takeOver : ByteArray := prog_2_method_2_code
def yX0_takeOver : MethodName := ⟨RX0, "takeOver", "(LGlassHarp$Orchestra;)V"⟩
abbrev cX0_hasGlass : ByteArray := prog_2_method_3_code
def yX0_hasGlass : MethodName := ⟨RX0, "hasGlass", "(I)Z"⟩
abbrev cX0_addGlass : ByteArray := prog_2_method_4_code
def yX0_addGlass : MethodName := ⟨RX0, "addGlass", "(III)I"⟩
abbrev cX0_setPump : ByteArray := prog_2_method_5_code
def yX0_setPump : MethodName := ⟨RX0, "setPump", "(II)V"⟩
abbrev cX0_mostDrops : ByteArray := prog_2_method_6_code
def yX0_mostDrops : MethodName := ⟨RX0, "mostDrops", "(I)I"⟩
abbrev cX0_emptyTone : ByteArray := prog_2_method_7_code
def yX0_emptyTone : MethodName := ⟨RX0, "emptyTone", "(I)I"⟩
abbrev cX0_dropsPerTone : ByteArray := prog_2_method_8_code
def yX0_dropsPerTone : MethodName := ⟨RX0, "dropsPerTone", "(I)I"⟩
abbrev cX0_toneOf : ByteArray := prog_2_method_9_code
def yX0_toneOf : MethodName := ⟨RX0, "toneOf", "(I)I"⟩
abbrev cX0_fewestDropsFor : ByteArray := prog_2_method_10_code
def yX0_fewestDropsFor : MethodName := ⟨RX0, "fewestDropsFor", "(II)I"⟩
abbrev cX0_canBeTuned : ByteArray := prog_2_method_11_code
def yX0_canBeTuned : MethodName := ⟨RX0, "canBeTuned", "(II)Z"⟩
abbrev cX0_tuneTo : ByteArray := prog_2_method_12_code
def yX0_tuneTo : MethodName := ⟨RX0, "tuneTo", "(II)V"⟩
abbrev cX0_crackedGlasses : ByteArray := prog_2_method_13_code
def yX0_crackedGlasses : MethodName := ⟨RX0, "crackedGlasses", "()I"⟩
abbrev cX0_glassesInRow : ByteArray := prog_2_method_14_code
def yX0_glassesInRow : MethodName := ⟨RX0, "glassesInRow", "(I)I"⟩
abbrev cX0_allAir : ByteArray := prog_2_method_15_code
def yX0_allAir : MethodName := ⟨RX0, "allAir", "()I"⟩
abbrev cX0_beatAgainst : ByteArray := prog_2_method_16_code
def yX0_beatAgainst : MethodName := ⟨RX0, "beatAgainst", "(II)Z"⟩
abbrev cX0_glassesBeatingAgainst : ByteArray := prog_2_method_17_code
def yX0_glassesBeatingAgainst : MethodName := ⟨RX0, "glassesBeatingAgainst", "(I)I"⟩
abbrev cX0_pairsBeating : ByteArray := prog_2_method_18_code
def yX0_pairsBeating : MethodName := ⟨RX0, "pairsBeating", "()I"⟩
abbrev cX0_letGoBy : ByteArray := prog_2_method_19_code
def yX0_letGoBy : MethodName := ⟨RX0, "letGoBy", "(I)V"⟩
abbrev cX0_fillBellows : ByteArray := prog_2_method_20_code
def yX0_fillBellows : MethodName := ⟨RX0, "fillBellows", "()V"⟩
abbrev cX0_playNotes : ByteArray := prog_2_method_21_code
def yX0_playNotes : MethodName := ⟨RX0, "playNotes", "()V"⟩
abbrev cX0_playerFor : ByteArray := prog_2_method_22_code
def yX0_playerFor : MethodName := ⟨RX0, "playerFor", "(II)I"⟩
abbrev cX0_hasAir : ByteArray := prog_2_method_23_code
def yX0_hasAir : MethodName := ⟨RX0, "hasAir", "(II)Z"⟩
abbrev cX0_rub : ByteArray := prog_2_method_24_code
def yX0_rub : MethodName := ⟨RX0, "rub", "(III)V"⟩
abbrev cX0_fadeAndDry : ByteArray := prog_2_method_25_code
def yX0_fadeAndDry : MethodName := ⟨RX0, "fadeAndDry", "()V"⟩
def RX1 : String := "GlassHarp$Score"
def TX1 : u_T := fun k => match k with
  | 0 => ("GlassHarp$Score", "beats", "[I", true)
  | 1 => ("GlassHarp$Score", "tones", "[I", true)
  | 2 => ("GlassHarp$Score", "forces", "[I", true)
  | 3 => ("GlassHarp$Score", "notes", "I", false)
  | _ => ("GlassHarp$Score", "length", "I", false)
def tyX1 : Nat → FieldType := fun k => match k with
  | 0 => .array .int
  | 1 => .array .int
  | 2 => .array .int
  | 3 => .int
  | _ => .int
abbrev wsX10 : List Cond := u_ws RX1 TX1 5
theorem nmX1 : ∀ a, a < 5 → ∀ b, b < 5 → a ≠ b → (TX1 a).2.1 ≠ (TX1 b).2.1 := by decide +kernel
theorem tyX1_ok : ∀ k, k < 5 → parseFieldDescriptor (TX1 k).2.2.1 = some (tyX1 k) := by decide +kernel
abbrev cX1_init : ByteArray := prog_3_method_1_code
def yX1_init : MethodName := ⟨RX1, "<init>", "()V"⟩
abbrev cX1_hasNote : ByteArray := prog_3_method_2_code
def yX1_hasNote : MethodName := ⟨RX1, "hasNote", "(I)Z"⟩
abbrev cX1_write : ByteArray := prog_3_method_3_code
def yX1_write : MethodName := ⟨RX1, "write", "(III)Z"⟩
abbrev cX1_takeOut : ByteArray := prog_3_method_4_code
def yX1_takeOut : MethodName := ⟨RX1, "takeOut", "(I)V"⟩
abbrev cX1_beatAt : ByteArray := prog_3_method_5_code
def yX1_beatAt : MethodName := ⟨RX1, "beatAt", "(I)I"⟩
def RX2 : String := "GlassHarp"
def TX2 : u_T := fun k => match k with
  | 0 => ("GlassHarp", "score", "LGlassHarp$Score;", true)
  | 1 => ("GlassHarp", "now", "LGlassHarp$Orchestra;", true)
  | _ => ("GlassHarp", "trial", "LGlassHarp$Orchestra;", true)
def tyX2 : Nat → FieldType := fun k => match k with
  | 0 => .object "GlassHarp$Score"
  | 1 => .object "GlassHarp$Orchestra"
  | _ => .object "GlassHarp$Orchestra"
abbrev wsX20 : List Cond := u_ws RX2 TX2 3
theorem nmX2 : ∀ a, a < 3 → ∀ b, b < 3 → a ≠ b → (TX2 a).2.1 ≠ (TX2 b).2.1 := by decide +kernel
theorem tyX2_ok : ∀ k, k < 3 → parseFieldDescriptor (TX2 k).2.2.1 = some (tyX2 k) := by decide +kernel
abbrev cX2_init : ByteArray := prog_1_method_1_code
def yX2_init : MethodName := ⟨RX2, "<init>", "()V"⟩
abbrev cX2_set : ByteArray := prog_1_method_2_code
def yX2_set : MethodName := ⟨RX2, "set", "(III)I"⟩
abbrev cX2_drop : ByteArray := prog_1_method_3_code
def yX2_drop : MethodName := ⟨RX2, "drop", "(II)I"⟩
abbrev cX2_pump : ByteArray := prog_1_method_4_code
def yX2_pump : MethodName := ⟨RX2, "pump", "(II)I"⟩
abbrev cX2_glass : ByteArray := prog_1_method_5_code
def yX2_glass : MethodName := ⟨RX2, "glass", "(II)I"⟩
abbrev cX2_row : ByteArray := prog_1_method_6_code
def yX2_row : MethodName := ⟨RX2, "row", "(II)I"⟩
abbrev cX2_setLength : ByteArray := prog_1_method_7_code
def yX2_setLength : MethodName := ⟨RX2, "setLength", "(I)I"⟩
abbrev cX2_note : ByteArray := prog_1_method_8_code
def yX2_note : MethodName := ⟨RX2, "note", "(III)I"⟩
abbrev cX2_strike : ByteArray := prog_1_method_9_code
def yX2_strike : MethodName := ⟨RX2, "strike", "(I)I"⟩
abbrev cX2_written : ByteArray := prog_1_method_10_code
def yX2_written : MethodName := ⟨RX2, "written", "(II)I"⟩
abbrev cX2_play : ByteArray := prog_1_method_11_code
def yX2_play : MethodName := ⟨RX2, "play", "(I)I"⟩
abbrev cX2_count : ByteArray := prog_1_method_12_code
def yX2_count : MethodName := ⟨RX2, "count", "(I)I"⟩
abbrev cX2_needs : ByteArray := prog_1_method_13_code
def yX2_needs : MethodName := ⟨RX2, "needs", "(II)I"⟩
abbrev cX2_foresee : ByteArray := prog_1_method_14_code
def yX2_foresee : MethodName := ⟨RX2, "foresee", "(II)I"⟩
abbrev cX2_advise : ByteArray := prog_1_method_15_code
def yX2_advise : MethodName := ⟨RX2, "advise", "(II)I"⟩
abbrev cX2_wants : ByteArray := prog_1_method_16_code
def yX2_wants : MethodName := ⟨RX2, "wants", "(II)I"⟩
abbrev cX2_mean : ByteArray := prog_1_method_17_code
def yX2_mean : MethodName := ⟨RX2, "mean", "()D"⟩
abbrev cX2_digest : ByteArray := prog_1_method_18_code
def yX2_digest : MethodName := ⟨RX2, "digest", "()J"⟩
abbrev cX2_inTuneIfTuned : ByteArray := prog_1_method_19_code
def yX2_inTuneIfTuned : MethodName := ⟨RX2, "inTuneIfTuned", "(III)I"⟩
abbrev cX2_missedIfPumped : ByteArray := prog_1_method_20_code
def yX2_missedIfPumped : MethodName := ⟨RX2, "missedIfPumped", "(III)I"⟩
abbrev cX2_digested : ByteArray := prog_1_method_21_code
def yX2_digested : MethodName := ⟨RX2, "digested", "(JI)J"⟩
abbrev cX2_isWithin : ByteArray := prog_1_method_22_code
def yX2_isWithin : MethodName := ⟨RX2, "isWithin", "(III)Z"⟩
abbrev cX2_distance : ByteArray := prog_1_method_23_code
def yX2_distance : MethodName := ⟨RX2, "distance", "(II)I"⟩
def RX3 : String := "GlassHarpModel$State"
def TX3 : u_T := fun k => match k with
  | 0 => ("GlassHarpModel$State", "beat", "I", false)
  | 1 => ("GlassHarpModel$State", "played", "I", false)
  | 2 => ("GlassHarpModel$State", "tuned", "I", false)
  | 3 => ("GlassHarpModel$State", "missed", "I", false)
  | 4 => ("GlassHarpModel$State", "air", "[I", true)
  | 5 => ("GlassHarpModel$State", "pump", "[I", true)
  | 6 => ("GlassHarpModel$State", "drops", "[I", true)
  | 7 => ("GlassHarpModel$State", "broken", "[I", true)
  | 8 => ("GlassHarpModel$State", "ring", "[I", true)
  | 9 => ("GlassHarpModel$State", "times", "[I", true)
  | 10 => ("GlassHarpModel$State", "busy", "I", false)
  | _ => ("GlassHarpModel$State", "this$0", "LGlassHarpModel;", true)
def tyX3 : Nat → FieldType := fun k => match k with
  | 0 => .int
  | 1 => .int
  | 2 => .int
  | 3 => .int
  | 4 => .array .int
  | 5 => .array .int
  | 6 => .array .int
  | 7 => .array .int
  | 8 => .array .int
  | 9 => .array .int
  | 10 => .int
  | _ => .object "GlassHarpModel"
abbrev wsX30 : List Cond := u_ws RX3 TX3 12
theorem nmX3 : ∀ a, a < 12 → ∀ b, b < 12 → a ≠ b → (TX3 a).2.1 ≠ (TX3 b).2.1 := by decide +kernel
theorem tyX3_ok : ∀ k, k < 12 → parseFieldDescriptor (TX3 k).2.2.1 = some (tyX3 k) := by decide +kernel
abbrev cX3_init : ByteArray := prog_6_method_1_code
def yX3_init : MethodName := ⟨RX3, "<init>", "(LGlassHarpModel;)V"⟩
abbrev cX3_copy : ByteArray := prog_6_method_2_code
def yX3_copy : MethodName := ⟨RX3, "copy", "([I[I)V"⟩
abbrev cX3_become : ByteArray := prog_6_method_3_code
def yX3_become : MethodName := ⟨RX3, "become", "(LGlassHarpModel$State;)V"⟩
abbrev cX3_tone : ByteArray := prog_6_method_4_code
def yX3_tone : MethodName := ⟨RX3, "tone", "(I)I"⟩
abbrev cX3_off : ByteArray := prog_6_method_5_code
def yX3_off : MethodName := ⟨RX3, "off", "(II)I"⟩
abbrev cX3_come : ByteArray := prog_6_method_6_code
def yX3_come : MethodName := ⟨RX3, "come", "(II)V"⟩
abbrev cX3_pass : ByteArray := prog_6_method_7_code
def yX3_pass : MethodName := ⟨RX3, "pass", "()V"⟩
abbrev cX3_cracked : ByteArray := prog_6_method_8_code
def yX3_cracked : MethodName := ⟨RX3, "cracked", "()I"⟩
abbrev cX3_isAgainst : ByteArray := prog_6_method_9_code
def yX3_isAgainst : MethodName := ⟨RX3, "isAgainst", "(II)Z"⟩
def RX4 : String := "GlassHarpModel"
def TX4 : u_T := fun k => match k with
  | 0 => ("GlassHarpModel", "thrown", "I", false)
  | 1 => ("GlassHarpModel", "length", "I", false)
  | 2 => ("GlassHarpModel", "notes", "I", false)
  | 3 => ("GlassHarpModel", "score", "[I", true)
  | 4 => ("GlassHarpModel", "glasses", "I", false)
  | 5 => ("GlassHarpModel", "row", "[I", true)
  | 6 => ("GlassHarpModel", "size", "[I", true)
  | 7 => ("GlassHarpModel", "s", "LGlassHarpModel$State;", true)
  | _ => ("GlassHarpModel", "ahead", "LGlassHarpModel$State;", true)
def tyX4 : Nat → FieldType := fun k => match k with
  | 0 => .int
  | 1 => .int
  | 2 => .int
  | 3 => .array .int
  | 4 => .int
  | 5 => .array .int
  | 6 => .array .int
  | 7 => .object "GlassHarpModel$State"
  | _ => .object "GlassHarpModel$State"
abbrev wsX40 : List Cond := u_ws RX4 TX4 9
theorem nmX4 : ∀ a, a < 9 → ∀ b, b < 9 → a ≠ b → (TX4 a).2.1 ≠ (TX4 b).2.1 := by decide +kernel
theorem tyX4_ok : ∀ k, k < 9 → parseFieldDescriptor (TX4 k).2.2.1 = some (tyX4 k) := by decide +kernel
abbrev cX4_init : ByteArray := prog_5_method_1_code
def yX4_init : MethodName := ⟨RX4, "<init>", "()V"⟩
abbrev cX4_thrown : ByteArray := prog_5_method_2_code
def yX4_thrown : MethodName := ⟨RX4, "thrown", "()I"⟩
abbrev cX4_no : ByteArray := prog_5_method_3_code
def yX4_no : MethodName := ⟨RX4, "no", "(I)I"⟩
abbrev cX4_isIn : ByteArray := prog_5_method_4_code
def yX4_isIn : MethodName := ⟨RX4, "isIn", "(III)Z"⟩
abbrev cX4_isGlass : ByteArray := prog_5_method_5_code
def yX4_isGlass : MethodName := ⟨RX4, "isGlass", "(I)Z"⟩
abbrev cX4_isRow : ByteArray := prog_5_method_6_code
def yX4_isRow : MethodName := ⟨RX4, "isRow", "(I)Z"⟩
abbrev cX4_set : ByteArray := prog_5_method_7_code
def yX4_set : MethodName := ⟨RX4, "set", "(III)I"⟩
abbrev cX4_drop : ByteArray := prog_5_method_8_code
def yX4_drop : MethodName := ⟨RX4, "drop", "(II)I"⟩
abbrev cX4_pump : ByteArray := prog_5_method_9_code
def yX4_pump : MethodName := ⟨RX4, "pump", "(II)I"⟩
abbrev cX4_against : ByteArray := prog_5_method_10_code
def yX4_against : MethodName := ⟨RX4, "against", "(I)I"⟩
abbrev cX4_glassTold : ByteArray := prog_5_method_11_code
def yX4_glassTold : MethodName := ⟨RX4, "glassTold", "(II)I"⟩
abbrev cX4_glass : ByteArray := prog_5_method_12_code
def yX4_glass : MethodName := ⟨RX4, "glass", "(II)I"⟩
abbrev cX4_rowTold : ByteArray := prog_5_method_13_code
def yX4_rowTold : MethodName := ⟨RX4, "rowTold", "(II)I"⟩
abbrev cX4_row : ByteArray := prog_5_method_14_code
def yX4_row : MethodName := ⟨RX4, "row", "(II)I"⟩
abbrev cX4_setLength : ByteArray := prog_5_method_15_code
def yX4_setLength : MethodName := ⟨RX4, "setLength", "(I)I"⟩
abbrev cX4_note : ByteArray := prog_5_method_16_code
def yX4_note : MethodName := ⟨RX4, "note", "(III)I"⟩
abbrev cX4_strike : ByteArray := prog_5_method_17_code
def yX4_strike : MethodName := ⟨RX4, "strike", "(I)I"⟩
abbrev cX4_written : ByteArray := prog_5_method_18_code
def yX4_written : MethodName := ⟨RX4, "written", "(II)I"⟩
abbrev cX4_play : ByteArray := prog_5_method_19_code
def yX4_play : MethodName := ⟨RX4, "play", "(I)I"⟩
abbrev cX4_counted : ByteArray := prog_5_method_20_code
def yX4_counted : MethodName := ⟨RX4, "counted", "(I)I"⟩
abbrev cX4_count : ByteArray := prog_5_method_21_code
def yX4_count : MethodName := ⟨RX4, "count", "(I)I"⟩
abbrev cX4_needed : ByteArray := prog_5_method_22_code
def yX4_needed : MethodName := ⟨RX4, "needed", "(II)I"⟩
abbrev cX4_needs : ByteArray := prog_5_method_23_code
def yX4_needs : MethodName := ⟨RX4, "needs", "(II)I"⟩
abbrev cX4_run : ByteArray := prog_5_method_24_code
def yX4_run : MethodName := ⟨RX4, "run", "(I)V"⟩
abbrev cX4_foresee : ByteArray := prog_5_method_25_code
def yX4_foresee : MethodName := ⟨RX4, "foresee", "(II)I"⟩
abbrev cX4_advise : ByteArray := prog_5_method_26_code
def yX4_advise : MethodName := ⟨RX4, "advise", "(II)I"⟩
abbrev cX4_missedWith : ByteArray := prog_5_method_27_code
def yX4_missedWith : MethodName := ⟨RX4, "missedWith", "(III)I"⟩
abbrev cX4_wants : ByteArray := prog_5_method_28_code
def yX4_wants : MethodName := ⟨RX4, "wants", "(II)I"⟩
abbrev cX4_mean : ByteArray := prog_5_method_29_code
def yX4_mean : MethodName := ⟨RX4, "mean", "()D"⟩
abbrev cX4_digest : ByteArray := prog_5_method_30_code
def yX4_digest : MethodName := ⟨RX4, "digest", "()J"⟩
def RJ9 : String := "java/lang/Math"
def TJ9 : u_T := fun k => match k with
  | _ => ("", "", "", false)
def tyJ9 : Nat → FieldType := fun k => match k with
  | _ => .int
abbrev wsJ90 : List Cond := u_ws RJ9 TJ9 0
theorem nmJ9 : ∀ a, a < 0 → ∀ b, b < 0 → a ≠ b → (TJ9 a).2.1 ≠ (TJ9 b).2.1 := by decide +kernel
theorem tyJ9_ok : ∀ k, k < 0 → parseFieldDescriptor (TJ9 k).2.2.1 = some (tyJ9 k) := by decide +kernel
abbrev cJ9_abs_0f7a4 : ByteArray := prog_11_method_59_code
def yJ9_abs_0f7a4 : MethodName := ⟨RJ9, "abs", "(I)I"⟩
abbrev cJ9_max_7cf53 : ByteArray := prog_11_method_65_code
def yJ9_max_7cf53 : MethodName := ⟨RJ9, "max", "(II)I"⟩
abbrev cJ9_min_7cf53 : ByteArray := prog_11_method_69_code
def yJ9_min_7cf53 : MethodName := ⟨RJ9, "min", "(II)I"⟩
def RJ0 : String := "java/lang/String"
def TJ0 : u_T := fun k => match k with
  | _ => ("", "", "", false)
def tyJ0 : Nat → FieldType := fun k => match k with
  | _ => .int
abbrev wsJ00 : List Cond := u_ws RJ0 TJ0 0
theorem nmJ0 : ∀ a, a < 0 → ∀ b, b < 0 → a ≠ b → (TJ0 a).2.1 ≠ (TJ0 b).2.1 := by decide +kernel
theorem tyJ0_ok : ∀ k, k < 0 → parseFieldDescriptor (TJ0 k).2.2.1 = some (tyJ0 k) := by decide +kernel
def RJ10 : String := "java/lang/System"
def TJ10 : u_T := fun k => match k with
  | _ => ("", "", "", false)
def tyJ10 : Nat → FieldType := fun k => match k with
  | _ => .int
abbrev wsJ100 : List Cond := u_ws RJ10 TJ10 0
theorem nmJ10 : ∀ a, a < 0 → ∀ b, b < 0 → a ≠ b → (TJ10 a).2.1 ≠ (TJ10 b).2.1 := by decide +kernel
theorem tyJ10_ok : ∀ k, k < 0 → parseFieldDescriptor (TJ10 k).2.2.1 = some (tyJ10 k) := by decide +kernel
def RL : String := "GlassHarpLaw"
abbrev cL_set : ByteArray := method_3_code
def yL_set : MethodName := ⟨RL, "set", "(LGlassHarp;III[J)I"⟩
abbrev cL_drop : ByteArray := method_4_code
def yL_drop : MethodName := ⟨RL, "drop", "(LGlassHarp;II[J)I"⟩
abbrev cL_pump : ByteArray := method_5_code
def yL_pump : MethodName := ⟨RL, "pump", "(LGlassHarp;II[J)I"⟩
abbrev cL_glass : ByteArray := method_6_code
def yL_glass : MethodName := ⟨RL, "glass", "(LGlassHarp;II[J)I"⟩
abbrev cL_row : ByteArray := method_7_code
def yL_row : MethodName := ⟨RL, "row", "(LGlassHarp;II[J)I"⟩
abbrev cL_setLength : ByteArray := method_8_code
def yL_setLength : MethodName := ⟨RL, "setLength", "(LGlassHarp;I[J)I"⟩
abbrev cL_note : ByteArray := method_9_code
def yL_note : MethodName := ⟨RL, "note", "(LGlassHarp;III[J)I"⟩
abbrev cL_strike : ByteArray := method_10_code
def yL_strike : MethodName := ⟨RL, "strike", "(LGlassHarp;I[J)I"⟩
abbrev cL_written : ByteArray := method_11_code
def yL_written : MethodName := ⟨RL, "written", "(LGlassHarp;II[J)I"⟩
abbrev cL_play : ByteArray := method_12_code
def yL_play : MethodName := ⟨RL, "play", "(LGlassHarp;I[J)I"⟩
abbrev cL_count : ByteArray := method_13_code
def yL_count : MethodName := ⟨RL, "count", "(LGlassHarp;I[J)I"⟩
abbrev cL_needs : ByteArray := method_14_code
def yL_needs : MethodName := ⟨RL, "needs", "(LGlassHarp;II[J)I"⟩
abbrev cL_foresee : ByteArray := method_15_code
def yL_foresee : MethodName := ⟨RL, "foresee", "(LGlassHarp;II[J)I"⟩
abbrev cL_advise : ByteArray := method_16_code
def yL_advise : MethodName := ⟨RL, "advise", "(LGlassHarp;II[J)I"⟩
abbrev cL_wants : ByteArray := method_17_code
def yL_wants : MethodName := ⟨RL, "wants", "(LGlassHarp;II[J)I"⟩
def wsX0_init : List Cond := .code yX0_init cX0_init 3 none :: ([.methodLink RX0 3 objectInit, .instanceMethod objectInit, .code objectInit ⟨#[0xb1]⟩ 1 none, .arrayClass .int, .fieldLink RX0 9 "GlassHarp$Orchestra" "rows" "[I", .fieldLink RX0 15 "GlassHarp$Orchestra" "sizes" "[I", .fieldLink RX0 18 "GlassHarp$Orchestra" "drops" "[I", .arrayClass .boolean, .fieldLink RX0 21 "GlassHarp$Orchestra" "cracked" "[Z", .fieldLink RX0 25 "GlassHarp$Orchestra" "rings" "[I", .fieldLink RX0 28 "GlassHarp$Orchestra" "plays" "[I", .fieldLink RX0 31 "GlassHarp$Orchestra" "busy" "[Z", .fieldLink RX0 34 "GlassHarp$Orchestra" "air" "[I", .fieldLink RX0 37 "GlassHarp$Orchestra" "pumps" "[I", .fieldLink RX0 40 "GlassHarp$Orchestra" "glasses" "I", .fieldLink RX0 44 "GlassHarp$Orchestra" "beat" "I", .fieldLink RX0 47 "GlassHarp$Orchestra" "played" "I", .fieldLink RX0 50 "GlassHarp$Orchestra" "inTune" "I", .fieldLink RX0 53 "GlassHarp$Orchestra" "missed" "I", .fieldLink RX0 56 "GlassHarp$Orchestra" "score" "LGlassHarp$Score;"] ++ wsX00)
def wsX0_takeOver : List Cond := .code yX0_takeOver cX0_takeOver 3 none :: ([.fieldLink RX0 40 "GlassHarp$Orchestra" "glasses" "I", .fieldLink RX0 9 "GlassHarp$Orchestra" "rows" "[I", .fieldLink RX0 15 "GlassHarp$Orchestra" "sizes" "[I", .fieldLink RX0 18 "GlassHarp$Orchestra" "drops" "[I", .fieldLink RX0 21 "GlassHarp$Orchestra" "cracked" "[Z", .fieldLink RX0 25 "GlassHarp$Orchestra" "rings" "[I", .fieldLink RX0 28 "GlassHarp$Orchestra" "plays" "[I", .fieldLink RX0 34 "GlassHarp$Orchestra" "air" "[I", .fieldLink RX0 37 "GlassHarp$Orchestra" "pumps" "[I", .fieldLink RX0 44 "GlassHarp$Orchestra" "beat" "I", .fieldLink RX0 47 "GlassHarp$Orchestra" "played" "I", .fieldLink RX0 50 "GlassHarp$Orchestra" "inTune" "I", .fieldLink RX0 53 "GlassHarp$Orchestra" "missed" "I"] ++ wsX00)
def wsX0_hasGlass : List Cond := .code yX0_hasGlass cX0_hasGlass 2 (some .boolean) :: ([.fieldLink RX0 40 "GlassHarp$Orchestra" "glasses" "I"] ++ wsX00)
def wsX0_addGlass : List Cond := .code yX0_addGlass cX0_addGlass 5 (some .int) :: ([.fieldLink RX0 40 "GlassHarp$Orchestra" "glasses" "I", .fieldLink RX0 9 "GlassHarp$Orchestra" "rows" "[I", .fieldLink RX0 15 "GlassHarp$Orchestra" "sizes" "[I", .fieldLink RX0 18 "GlassHarp$Orchestra" "drops" "[I"] ++ wsX00)
def wsX2_isWithin : List Cond := .code yX2_isWithin cX2_isWithin 3 (some .boolean) :: ([])
def wsX0_setPump : List Cond := .code yX0_setPump cX0_setPump 3 none :: ([.fieldLink RX0 37 "GlassHarp$Orchestra" "pumps" "[I", .static yX2_isWithin, .initialized RX2, .code yX2_isWithin cX2_isWithin 3 (some .boolean)] ++ wsX00)
def wsX0_mostDrops : List Cond := .code yX0_mostDrops cX0_mostDrops 2 (some .int) :: ([.fieldLink RX0 15 "GlassHarp$Orchestra" "sizes" "[I", .methodLink RX0 64 yX0_hasGlass, .instanceMethod yX0_hasGlass, .selects RX0 yX0_hasGlass yX0_hasGlass, .initialized RX0, .code yX0_hasGlass cX0_hasGlass 2 (some .boolean), .fieldLink RX0 40 "GlassHarp$Orchestra" "glasses" "I"] ++ wsX00)
def wsX0_emptyTone : List Cond := .code yX0_emptyTone cX0_emptyTone 1 (some .int) :: ([])
def wsX0_dropsPerTone : List Cond := .code yX0_dropsPerTone cX0_dropsPerTone 1 (some .int) :: ([])
def wsX0_toneOf : List Cond := .code yX0_toneOf cX0_toneOf 4 (some .int) :: ([.fieldLink RX0 15 "GlassHarp$Orchestra" "sizes" "[I", .fieldLink RX0 18 "GlassHarp$Orchestra" "drops" "[I", .methodLink RX0 75 Lib.Math.max.name, .static Lib.Math.max.name, .initialized "java/lang/Math", .code Lib.Math.max.name Lib.Math.max.code 2 (some .int), .methodLink RX0 64 yX0_hasGlass, .instanceMethod yX0_hasGlass, .selects RX0 yX0_hasGlass yX0_hasGlass, .initialized RX0, .code yX0_hasGlass cX0_hasGlass 2 (some .boolean), .fieldLink RX0 40 "GlassHarp$Orchestra" "glasses" "I", .methodLink RX0 68 yX0_dropsPerTone, .static yX0_dropsPerTone, .code yX0_dropsPerTone cX0_dropsPerTone 1 (some .int), .methodLink RX0 72 yX0_emptyTone, .static yX0_emptyTone, .code yX0_emptyTone cX0_emptyTone 1 (some .int)] ++ wsX00)
def wsX0_fewestDropsFor : List Cond := .code yX0_fewestDropsFor cX0_fewestDropsFor 5 (some .int) :: ([.fieldLink RX0 15 "GlassHarp$Orchestra" "sizes" "[I", .methodLink RX0 64 yX0_hasGlass, .instanceMethod yX0_hasGlass, .selects RX0 yX0_hasGlass yX0_hasGlass, .initialized RX0, .code yX0_hasGlass cX0_hasGlass 2 (some .boolean), .fieldLink RX0 40 "GlassHarp$Orchestra" "glasses" "I", .methodLink RX0 68 yX0_dropsPerTone, .static yX0_dropsPerTone, .code yX0_dropsPerTone cX0_dropsPerTone 1 (some .int), .methodLink RX0 72 yX0_emptyTone, .static yX0_emptyTone, .code yX0_emptyTone cX0_emptyTone 1 (some .int), .methodLink RX0 81 yX0_mostDrops, .instanceMethod yX0_mostDrops, .selects RX0 yX0_mostDrops yX0_mostDrops, .code yX0_mostDrops cX0_mostDrops 2 (some .int), .static yX2_isWithin, .initialized RX2, .code yX2_isWithin cX2_isWithin 3 (some .boolean)] ++ wsX00)
def wsX0_canBeTuned_r1 : List Cond := [Cond.fieldLink RX0 21 "GlassHarp$Orchestra" "cracked" "[Z", Cond.methodLink RX0 64 yX0_hasGlass, Cond.instanceMethod yX0_hasGlass, Cond.selects RX0 yX0_hasGlass yX0_hasGlass, Cond.initialized RX0, Cond.code yX0_hasGlass cX0_hasGlass 2 (some .boolean), Cond.fieldLink RX0 40 "GlassHarp$Orchestra" "glasses" "I", Cond.methodLink RX0 84 yX0_fewestDropsFor, Cond.instanceMethod yX0_fewestDropsFor, Cond.selects RX0 yX0_fewestDropsFor yX0_fewestDropsFor, Cond.code yX0_fewestDropsFor cX0_fewestDropsFor 5 (some .int), Cond.fieldLink RX0 15 "GlassHarp$Orchestra" "sizes" "[I", Cond.methodLink RX0 68 yX0_dropsPerTone, Cond.static yX0_dropsPerTone, Cond.code yX0_dropsPerTone cX0_dropsPerTone 1 (some .int), Cond.methodLink RX0 72 yX0_emptyTone, Cond.static yX0_emptyTone, Cond.code yX0_emptyTone cX0_emptyTone 1 (some .int), Cond.methodLink RX0 81 yX0_mostDrops, Cond.instanceMethod yX0_mostDrops, Cond.selects RX0 yX0_mostDrops yX0_mostDrops, Cond.code yX0_mostDrops cX0_mostDrops 2 (some .int), Cond.static yX2_isWithin, Cond.initialized RX2]
def wsX0_canBeTuned_r2 : List Cond := [Cond.code yX2_isWithin cX2_isWithin 3 (some .boolean)]
def wsX0_canBeTuned : List Cond := .code yX0_canBeTuned cX0_canBeTuned 3 (some .boolean) :: ((wsX0_canBeTuned_r1 ++ wsX0_canBeTuned_r2) ++ wsX00)
def wsX0_tuneTo_r1 : List Cond := [Cond.fieldLink RX0 18 "GlassHarp$Orchestra" "drops" "[I", Cond.methodLink RX0 87 yX0_canBeTuned, Cond.instanceMethod yX0_canBeTuned, Cond.selects RX0 yX0_canBeTuned yX0_canBeTuned, Cond.initialized RX0, Cond.code yX0_canBeTuned cX0_canBeTuned 3 (some .boolean), Cond.fieldLink RX0 21 "GlassHarp$Orchestra" "cracked" "[Z", Cond.methodLink RX0 64 yX0_hasGlass, Cond.instanceMethod yX0_hasGlass, Cond.selects RX0 yX0_hasGlass yX0_hasGlass, Cond.code yX0_hasGlass cX0_hasGlass 2 (some .boolean), Cond.fieldLink RX0 40 "GlassHarp$Orchestra" "glasses" "I", Cond.methodLink RX0 84 yX0_fewestDropsFor, Cond.instanceMethod yX0_fewestDropsFor, Cond.selects RX0 yX0_fewestDropsFor yX0_fewestDropsFor, Cond.code yX0_fewestDropsFor cX0_fewestDropsFor 5 (some .int), Cond.fieldLink RX0 15 "GlassHarp$Orchestra" "sizes" "[I", Cond.methodLink RX0 68 yX0_dropsPerTone, Cond.static yX0_dropsPerTone, Cond.code yX0_dropsPerTone cX0_dropsPerTone 1 (some .int), Cond.methodLink RX0 72 yX0_emptyTone, Cond.static yX0_emptyTone, Cond.code yX0_emptyTone cX0_emptyTone 1 (some .int), Cond.methodLink RX0 81 yX0_mostDrops]
def wsX0_tuneTo_r2 : List Cond := [Cond.instanceMethod yX0_mostDrops, Cond.selects RX0 yX0_mostDrops yX0_mostDrops, Cond.code yX0_mostDrops cX0_mostDrops 2 (some .int), Cond.static yX2_isWithin, Cond.initialized RX2, Cond.code yX2_isWithin cX2_isWithin 3 (some .boolean)]
def wsX0_tuneTo : List Cond := .code yX0_tuneTo cX0_tuneTo 3 none :: ((wsX0_tuneTo_r1 ++ wsX0_tuneTo_r2) ++ wsX00)
def wsX0_crackedGlasses : List Cond := .code yX0_crackedGlasses cX0_crackedGlasses 3 (some .int) :: ([.fieldLink RX0 40 "GlassHarp$Orchestra" "glasses" "I", .fieldLink RX0 21 "GlassHarp$Orchestra" "cracked" "[Z"] ++ wsX00)
def wsX0_glassesInRow : List Cond := .code yX0_glassesInRow cX0_glassesInRow 4 (some .int) :: ([.fieldLink RX0 40 "GlassHarp$Orchestra" "glasses" "I", .fieldLink RX0 9 "GlassHarp$Orchestra" "rows" "[I"] ++ wsX00)
def wsX0_allAir : List Cond := .code yX0_allAir cX0_allAir 3 (some .int) :: ([.fieldLink RX0 34 "GlassHarp$Orchestra" "air" "[I"] ++ wsX00)
def wsX2_distance : List Cond := .code yX2_distance cX2_distance 2 (some .int) :: ([])
def wsX0_beatAgainst_r1 : List Cond := [Cond.fieldLink RX0 25 "GlassHarp$Orchestra" "rings" "[I", Cond.methodLink RX0 64 yX0_hasGlass, Cond.instanceMethod yX0_hasGlass, Cond.selects RX0 yX0_hasGlass yX0_hasGlass, Cond.initialized RX0, Cond.code yX0_hasGlass cX0_hasGlass 2 (some .boolean), Cond.fieldLink RX0 40 "GlassHarp$Orchestra" "glasses" "I", Cond.methodLink RX0 91 yX0_toneOf, Cond.instanceMethod yX0_toneOf, Cond.selects RX0 yX0_toneOf yX0_toneOf, Cond.code yX0_toneOf cX0_toneOf 4 (some .int), Cond.fieldLink RX0 15 "GlassHarp$Orchestra" "sizes" "[I", Cond.fieldLink RX0 18 "GlassHarp$Orchestra" "drops" "[I", Cond.methodLink RX0 75 Lib.Math.max.name, Cond.static Lib.Math.max.name, Cond.initialized "java/lang/Math", Cond.code Lib.Math.max.name Lib.Math.max.code 2 (some .int), Cond.methodLink RX0 68 yX0_dropsPerTone, Cond.static yX0_dropsPerTone, Cond.code yX0_dropsPerTone cX0_dropsPerTone 1 (some .int), Cond.methodLink RX0 72 yX0_emptyTone, Cond.static yX0_emptyTone, Cond.code yX0_emptyTone cX0_emptyTone 1 (some .int), Cond.static yX2_distance]
def wsX0_beatAgainst_r2 : List Cond := [Cond.initialized RX2, Cond.code yX2_distance cX2_distance 2 (some .int), Cond.static yX2_isWithin, Cond.code yX2_isWithin cX2_isWithin 3 (some .boolean)]
def wsX0_beatAgainst : List Cond := .code yX0_beatAgainst cX0_beatAgainst 3 (some .boolean) :: ((wsX0_beatAgainst_r1 ++ wsX0_beatAgainst_r2) ++ wsX00)
def wsX0_glassesBeatingAgainst_r1 : List Cond := [Cond.fieldLink RX0 40 "GlassHarp$Orchestra" "glasses" "I", Cond.methodLink RX0 97 yX0_beatAgainst, Cond.instanceMethod yX0_beatAgainst, Cond.selects RX0 yX0_beatAgainst yX0_beatAgainst, Cond.initialized RX0, Cond.code yX0_beatAgainst cX0_beatAgainst 3 (some .boolean), Cond.fieldLink RX0 25 "GlassHarp$Orchestra" "rings" "[I", Cond.methodLink RX0 64 yX0_hasGlass, Cond.instanceMethod yX0_hasGlass, Cond.selects RX0 yX0_hasGlass yX0_hasGlass, Cond.code yX0_hasGlass cX0_hasGlass 2 (some .boolean), Cond.methodLink RX0 91 yX0_toneOf, Cond.instanceMethod yX0_toneOf, Cond.selects RX0 yX0_toneOf yX0_toneOf, Cond.code yX0_toneOf cX0_toneOf 4 (some .int), Cond.fieldLink RX0 15 "GlassHarp$Orchestra" "sizes" "[I", Cond.fieldLink RX0 18 "GlassHarp$Orchestra" "drops" "[I", Cond.methodLink RX0 75 Lib.Math.max.name, Cond.static Lib.Math.max.name, Cond.initialized "java/lang/Math", Cond.code Lib.Math.max.name Lib.Math.max.code 2 (some .int), Cond.methodLink RX0 68 yX0_dropsPerTone, Cond.static yX0_dropsPerTone, Cond.code yX0_dropsPerTone cX0_dropsPerTone 1 (some .int)]
def wsX0_glassesBeatingAgainst_r2 : List Cond := [Cond.methodLink RX0 72 yX0_emptyTone, Cond.static yX0_emptyTone, Cond.code yX0_emptyTone cX0_emptyTone 1 (some .int), Cond.static yX2_distance, Cond.initialized RX2, Cond.code yX2_distance cX2_distance 2 (some .int), Cond.static yX2_isWithin, Cond.code yX2_isWithin cX2_isWithin 3 (some .boolean)]
def wsX0_glassesBeatingAgainst : List Cond := .code yX0_glassesBeatingAgainst cX0_glassesBeatingAgainst 4 (some .int) :: ((wsX0_glassesBeatingAgainst_r1 ++ wsX0_glassesBeatingAgainst_r2) ++ wsX00)
def wsX0_pairsBeating_r1 : List Cond := [Cond.fieldLink RX0 40 "GlassHarp$Orchestra" "glasses" "I", Cond.methodLink RX0 100 yX0_glassesBeatingAgainst, Cond.instanceMethod yX0_glassesBeatingAgainst, Cond.selects RX0 yX0_glassesBeatingAgainst yX0_glassesBeatingAgainst, Cond.initialized RX0, Cond.code yX0_glassesBeatingAgainst cX0_glassesBeatingAgainst 4 (some .int), Cond.methodLink RX0 97 yX0_beatAgainst, Cond.instanceMethod yX0_beatAgainst, Cond.selects RX0 yX0_beatAgainst yX0_beatAgainst, Cond.code yX0_beatAgainst cX0_beatAgainst 3 (some .boolean), Cond.fieldLink RX0 25 "GlassHarp$Orchestra" "rings" "[I", Cond.methodLink RX0 64 yX0_hasGlass, Cond.instanceMethod yX0_hasGlass, Cond.selects RX0 yX0_hasGlass yX0_hasGlass, Cond.code yX0_hasGlass cX0_hasGlass 2 (some .boolean), Cond.methodLink RX0 91 yX0_toneOf, Cond.instanceMethod yX0_toneOf, Cond.selects RX0 yX0_toneOf yX0_toneOf, Cond.code yX0_toneOf cX0_toneOf 4 (some .int), Cond.fieldLink RX0 15 "GlassHarp$Orchestra" "sizes" "[I", Cond.fieldLink RX0 18 "GlassHarp$Orchestra" "drops" "[I", Cond.methodLink RX0 75 Lib.Math.max.name, Cond.static Lib.Math.max.name, Cond.initialized "java/lang/Math"]
def wsX0_pairsBeating_r2 : List Cond := [Cond.code Lib.Math.max.name Lib.Math.max.code 2 (some .int), Cond.methodLink RX0 68 yX0_dropsPerTone, Cond.static yX0_dropsPerTone, Cond.code yX0_dropsPerTone cX0_dropsPerTone 1 (some .int), Cond.methodLink RX0 72 yX0_emptyTone, Cond.static yX0_emptyTone, Cond.code yX0_emptyTone cX0_emptyTone 1 (some .int), Cond.static yX2_distance, Cond.initialized RX2, Cond.code yX2_distance cX2_distance 2 (some .int), Cond.static yX2_isWithin, Cond.code yX2_isWithin cX2_isWithin 3 (some .boolean)]
def wsX0_pairsBeating : List Cond := .code yX0_pairsBeating cX0_pairsBeating 3 (some .int) :: ((wsX0_pairsBeating_r1 ++ wsX0_pairsBeating_r2) ++ wsX00)
def wsX0_fillBellows : List Cond := .code yX0_fillBellows cX0_fillBellows 2 none :: ([.fieldLink RX0 34 "GlassHarp$Orchestra" "air" "[I", .fieldLink RX0 37 "GlassHarp$Orchestra" "pumps" "[I", .methodLink RX0 112 Lib.Math.min.name, .static Lib.Math.min.name, .initialized "java/lang/Math", .code Lib.Math.min.name Lib.Math.min.code 2 (some .int)] ++ wsX00)
def wsX1_beatAt : List Cond := .code yX1_beatAt cX1_beatAt 2 (some .int) :: ([.fieldLink RX1 25 "GlassHarp$Score" "length" "I"] ++ wsX10)
def wsX0_hasAir : List Cond := .code yX0_hasAir cX0_hasAir 3 (some .boolean) :: ([.fieldLink RX0 34 "GlassHarp$Orchestra" "air" "[I", .static yX2_isWithin, .initialized RX2, .code yX2_isWithin cX2_isWithin 3 (some .boolean)] ++ wsX00)
def wsX0_playerFor_r1 : List Cond := [Cond.fieldLink RX0 40 "GlassHarp$Orchestra" "glasses" "I", Cond.fieldLink RX0 21 "GlassHarp$Orchestra" "cracked" "[Z", Cond.fieldLink RX0 31 "GlassHarp$Orchestra" "busy" "[Z", Cond.fieldLink RX0 9 "GlassHarp$Orchestra" "rows" "[I", Cond.methodLink RX0 139 yX0_hasAir, Cond.instanceMethod yX0_hasAir, Cond.selects RX0 yX0_hasAir yX0_hasAir, Cond.initialized RX0, Cond.code yX0_hasAir cX0_hasAir 3 (some .boolean), Cond.fieldLink RX0 34 "GlassHarp$Orchestra" "air" "[I", Cond.static yX2_isWithin, Cond.initialized RX2, Cond.code yX2_isWithin cX2_isWithin 3 (some .boolean), Cond.methodLink RX0 91 yX0_toneOf, Cond.instanceMethod yX0_toneOf, Cond.selects RX0 yX0_toneOf yX0_toneOf, Cond.code yX0_toneOf cX0_toneOf 4 (some .int), Cond.fieldLink RX0 15 "GlassHarp$Orchestra" "sizes" "[I", Cond.fieldLink RX0 18 "GlassHarp$Orchestra" "drops" "[I", Cond.methodLink RX0 75 Lib.Math.max.name, Cond.static Lib.Math.max.name, Cond.initialized "java/lang/Math", Cond.code Lib.Math.max.name Lib.Math.max.code 2 (some .int), Cond.methodLink RX0 64 yX0_hasGlass]
def wsX0_playerFor_r2 : List Cond := [Cond.instanceMethod yX0_hasGlass, Cond.selects RX0 yX0_hasGlass yX0_hasGlass, Cond.code yX0_hasGlass cX0_hasGlass 2 (some .boolean), Cond.methodLink RX0 68 yX0_dropsPerTone, Cond.static yX0_dropsPerTone, Cond.code yX0_dropsPerTone cX0_dropsPerTone 1 (some .int), Cond.methodLink RX0 72 yX0_emptyTone, Cond.static yX0_emptyTone, Cond.code yX0_emptyTone cX0_emptyTone 1 (some .int), Cond.static yX2_distance, Cond.code yX2_distance cX2_distance 2 (some .int)]
def wsX0_playerFor : List Cond := .code yX0_playerFor cX0_playerFor 7 (some .int) :: ((wsX0_playerFor_r1 ++ wsX0_playerFor_r2) ++ wsX00)
def wsX0_rub_r1 : List Cond := [Cond.fieldLink RX0 47 "GlassHarp$Orchestra" "played" "I", Cond.fieldLink RX0 50 "GlassHarp$Orchestra" "inTune" "I", Cond.fieldLink RX0 9 "GlassHarp$Orchestra" "rows" "[I", Cond.fieldLink RX0 34 "GlassHarp$Orchestra" "air" "[I", Cond.fieldLink RX0 31 "GlassHarp$Orchestra" "busy" "[Z", Cond.fieldLink RX0 28 "GlassHarp$Orchestra" "plays" "[I", Cond.fieldLink RX0 25 "GlassHarp$Orchestra" "rings" "[I", Cond.fieldLink RX0 18 "GlassHarp$Orchestra" "drops" "[I", Cond.methodLink RX0 75 Lib.Math.max.name, Cond.static Lib.Math.max.name, Cond.initialized "java/lang/Math", Cond.code Lib.Math.max.name Lib.Math.max.code 2 (some .int), Cond.fieldLink RX0 15 "GlassHarp$Orchestra" "sizes" "[I", Cond.fieldLink RX0 21 "GlassHarp$Orchestra" "cracked" "[Z", Cond.methodLink RX0 91 yX0_toneOf, Cond.instanceMethod yX0_toneOf, Cond.selects RX0 yX0_toneOf yX0_toneOf, Cond.initialized RX0, Cond.code yX0_toneOf cX0_toneOf 4 (some .int), Cond.methodLink RX0 64 yX0_hasGlass, Cond.instanceMethod yX0_hasGlass, Cond.selects RX0 yX0_hasGlass yX0_hasGlass, Cond.code yX0_hasGlass cX0_hasGlass 2 (some .boolean), Cond.fieldLink RX0 40 "GlassHarp$Orchestra" "glasses" "I"]
def wsX0_rub_r2 : List Cond := [Cond.methodLink RX0 68 yX0_dropsPerTone, Cond.static yX0_dropsPerTone, Cond.code yX0_dropsPerTone cX0_dropsPerTone 1 (some .int), Cond.methodLink RX0 72 yX0_emptyTone, Cond.static yX0_emptyTone, Cond.code yX0_emptyTone cX0_emptyTone 1 (some .int), Cond.static yX2_distance, Cond.initialized RX2, Cond.code yX2_distance cX2_distance 2 (some .int), Cond.methodLink RX0 139 yX0_hasAir, Cond.instanceMethod yX0_hasAir, Cond.selects RX0 yX0_hasAir yX0_hasAir, Cond.code yX0_hasAir cX0_hasAir 3 (some .boolean), Cond.static yX2_isWithin, Cond.code yX2_isWithin cX2_isWithin 3 (some .boolean)]
def wsX0_rub : List Cond := .code yX0_rub cX0_rub 5 none :: ((wsX0_rub_r1 ++ wsX0_rub_r2) ++ wsX00)
def wsX0_playNotes_r1 : List Cond := [Cond.fieldLink RX0 40 "GlassHarp$Orchestra" "glasses" "I", Cond.fieldLink RX0 31 "GlassHarp$Orchestra" "busy" "[Z", Cond.fieldLink RX0 56 "GlassHarp$Orchestra" "score" "LGlassHarp$Score;", Cond.fieldLink RX0 44 "GlassHarp$Orchestra" "beat" "I", Cond.fieldLink RX0 53 "GlassHarp$Orchestra" "missed" "I", Cond.instanceMethod yX1_beatAt, Cond.initialized RX1, Cond.selects RX1 yX1_beatAt yX1_beatAt, Cond.code yX1_beatAt cX1_beatAt 2 (some .int), Cond.fieldLink RX1 25 "GlassHarp$Score" "length" "I", Cond.methodLink RX0 132 yX0_playerFor, Cond.instanceMethod yX0_playerFor, Cond.selects RX0 yX0_playerFor yX0_playerFor, Cond.initialized RX0, Cond.code yX0_playerFor cX0_playerFor 7 (some .int), Cond.fieldLink RX0 21 "GlassHarp$Orchestra" "cracked" "[Z", Cond.fieldLink RX0 9 "GlassHarp$Orchestra" "rows" "[I", Cond.methodLink RX0 139 yX0_hasAir, Cond.instanceMethod yX0_hasAir, Cond.selects RX0 yX0_hasAir yX0_hasAir, Cond.code yX0_hasAir cX0_hasAir 3 (some .boolean), Cond.fieldLink RX0 34 "GlassHarp$Orchestra" "air" "[I", Cond.static yX2_isWithin, Cond.initialized RX2]
def wsX0_playNotes_r2 : List Cond := [Cond.code yX2_isWithin cX2_isWithin 3 (some .boolean), Cond.methodLink RX0 91 yX0_toneOf, Cond.instanceMethod yX0_toneOf, Cond.selects RX0 yX0_toneOf yX0_toneOf, Cond.code yX0_toneOf cX0_toneOf 4 (some .int), Cond.fieldLink RX0 15 "GlassHarp$Orchestra" "sizes" "[I", Cond.fieldLink RX0 18 "GlassHarp$Orchestra" "drops" "[I", Cond.methodLink RX0 75 Lib.Math.max.name, Cond.static Lib.Math.max.name, Cond.initialized "java/lang/Math", Cond.code Lib.Math.max.name Lib.Math.max.code 2 (some .int), Cond.methodLink RX0 64 yX0_hasGlass, Cond.instanceMethod yX0_hasGlass, Cond.selects RX0 yX0_hasGlass yX0_hasGlass, Cond.code yX0_hasGlass cX0_hasGlass 2 (some .boolean), Cond.methodLink RX0 68 yX0_dropsPerTone, Cond.static yX0_dropsPerTone, Cond.code yX0_dropsPerTone cX0_dropsPerTone 1 (some .int), Cond.methodLink RX0 72 yX0_emptyTone, Cond.static yX0_emptyTone, Cond.code yX0_emptyTone cX0_emptyTone 1 (some .int), Cond.static yX2_distance, Cond.code yX2_distance cX2_distance 2 (some .int), Cond.methodLink RX0 135 yX0_rub]
def wsX0_playNotes_r3 : List Cond := [Cond.instanceMethod yX0_rub, Cond.selects RX0 yX0_rub yX0_rub, Cond.code yX0_rub cX0_rub 5 none, Cond.fieldLink RX0 47 "GlassHarp$Orchestra" "played" "I", Cond.fieldLink RX0 50 "GlassHarp$Orchestra" "inTune" "I", Cond.fieldLink RX0 28 "GlassHarp$Orchestra" "plays" "[I", Cond.fieldLink RX0 25 "GlassHarp$Orchestra" "rings" "[I"]
def wsX0_playNotes : List Cond := .code yX0_playNotes cX0_playNotes 4 none :: ((wsX0_playNotes_r1 ++ (wsX0_playNotes_r2 ++ wsX0_playNotes_r3)) ++ wsX00 ++ wsX10)
def wsX0_fadeAndDry : List Cond := .code yX0_fadeAndDry cX0_fadeAndDry 3 none :: ([.fieldLink RX0 44 "GlassHarp$Orchestra" "beat" "I", .fieldLink RX0 40 "GlassHarp$Orchestra" "glasses" "I", .fieldLink RX0 31 "GlassHarp$Orchestra" "busy" "[Z", .fieldLink RX0 25 "GlassHarp$Orchestra" "rings" "[I", .methodLink RX0 75 Lib.Math.max.name, .static Lib.Math.max.name, .initialized "java/lang/Math", .code Lib.Math.max.name Lib.Math.max.code 2 (some .int), .fieldLink RX0 18 "GlassHarp$Orchestra" "drops" "[I"] ++ wsX00)
def wsX0_letGoBy_r1 : List Cond := [Cond.fieldLink RX0 44 "GlassHarp$Orchestra" "beat" "I", Cond.methodLink RX0 103 yX0_fillBellows, Cond.instanceMethod yX0_fillBellows, Cond.selects RX0 yX0_fillBellows yX0_fillBellows, Cond.initialized RX0, Cond.code yX0_fillBellows cX0_fillBellows 2 none, Cond.fieldLink RX0 34 "GlassHarp$Orchestra" "air" "[I", Cond.fieldLink RX0 37 "GlassHarp$Orchestra" "pumps" "[I", Cond.methodLink RX0 112 Lib.Math.min.name, Cond.static Lib.Math.min.name, Cond.initialized "java/lang/Math", Cond.code Lib.Math.min.name Lib.Math.min.code 2 (some .int), Cond.methodLink RX0 106 yX0_playNotes, Cond.instanceMethod yX0_playNotes, Cond.selects RX0 yX0_playNotes yX0_playNotes, Cond.code yX0_playNotes cX0_playNotes 4 none, Cond.fieldLink RX0 40 "GlassHarp$Orchestra" "glasses" "I", Cond.fieldLink RX0 31 "GlassHarp$Orchestra" "busy" "[Z", Cond.fieldLink RX0 56 "GlassHarp$Orchestra" "score" "LGlassHarp$Score;", Cond.fieldLink RX0 53 "GlassHarp$Orchestra" "missed" "I", Cond.instanceMethod yX1_beatAt, Cond.initialized RX1, Cond.selects RX1 yX1_beatAt yX1_beatAt, Cond.code yX1_beatAt cX1_beatAt 2 (some .int)]
def wsX0_letGoBy_r2 : List Cond := [Cond.fieldLink RX1 25 "GlassHarp$Score" "length" "I", Cond.methodLink RX0 132 yX0_playerFor, Cond.instanceMethod yX0_playerFor, Cond.selects RX0 yX0_playerFor yX0_playerFor, Cond.code yX0_playerFor cX0_playerFor 7 (some .int), Cond.fieldLink RX0 21 "GlassHarp$Orchestra" "cracked" "[Z", Cond.fieldLink RX0 9 "GlassHarp$Orchestra" "rows" "[I", Cond.methodLink RX0 139 yX0_hasAir, Cond.instanceMethod yX0_hasAir, Cond.selects RX0 yX0_hasAir yX0_hasAir, Cond.code yX0_hasAir cX0_hasAir 3 (some .boolean), Cond.static yX2_isWithin, Cond.initialized RX2, Cond.code yX2_isWithin cX2_isWithin 3 (some .boolean), Cond.methodLink RX0 91 yX0_toneOf, Cond.instanceMethod yX0_toneOf, Cond.selects RX0 yX0_toneOf yX0_toneOf, Cond.code yX0_toneOf cX0_toneOf 4 (some .int), Cond.fieldLink RX0 15 "GlassHarp$Orchestra" "sizes" "[I", Cond.fieldLink RX0 18 "GlassHarp$Orchestra" "drops" "[I", Cond.methodLink RX0 75 Lib.Math.max.name, Cond.static Lib.Math.max.name, Cond.code Lib.Math.max.name Lib.Math.max.code 2 (some .int), Cond.methodLink RX0 64 yX0_hasGlass]
def wsX0_letGoBy_r3 : List Cond := [Cond.instanceMethod yX0_hasGlass, Cond.selects RX0 yX0_hasGlass yX0_hasGlass, Cond.code yX0_hasGlass cX0_hasGlass 2 (some .boolean), Cond.methodLink RX0 68 yX0_dropsPerTone, Cond.static yX0_dropsPerTone, Cond.code yX0_dropsPerTone cX0_dropsPerTone 1 (some .int), Cond.methodLink RX0 72 yX0_emptyTone, Cond.static yX0_emptyTone, Cond.code yX0_emptyTone cX0_emptyTone 1 (some .int), Cond.static yX2_distance, Cond.code yX2_distance cX2_distance 2 (some .int), Cond.methodLink RX0 135 yX0_rub, Cond.instanceMethod yX0_rub, Cond.selects RX0 yX0_rub yX0_rub, Cond.code yX0_rub cX0_rub 5 none, Cond.fieldLink RX0 47 "GlassHarp$Orchestra" "played" "I", Cond.fieldLink RX0 50 "GlassHarp$Orchestra" "inTune" "I", Cond.fieldLink RX0 28 "GlassHarp$Orchestra" "plays" "[I", Cond.fieldLink RX0 25 "GlassHarp$Orchestra" "rings" "[I", Cond.methodLink RX0 109 yX0_fadeAndDry, Cond.instanceMethod yX0_fadeAndDry, Cond.selects RX0 yX0_fadeAndDry yX0_fadeAndDry, Cond.code yX0_fadeAndDry cX0_fadeAndDry 3 none]
def wsX0_letGoBy : List Cond := .code yX0_letGoBy cX0_letGoBy 3 none :: ((wsX0_letGoBy_r1 ++ (wsX0_letGoBy_r2 ++ wsX0_letGoBy_r3)) ++ wsX00 ++ wsX10)
def wsX1_init : List Cond := .code yX1_init cX1_init 1 none :: ([.methodLink RX1 3 objectInit, .instanceMethod objectInit, .code objectInit ⟨#[0xb1]⟩ 1 none, .arrayClass .int, .fieldLink RX1 9 "GlassHarp$Score" "beats" "[I", .fieldLink RX1 15 "GlassHarp$Score" "tones" "[I", .fieldLink RX1 18 "GlassHarp$Score" "forces" "[I", .fieldLink RX1 21 "GlassHarp$Score" "notes" "I", .fieldLink RX1 25 "GlassHarp$Score" "length" "I"] ++ wsX10)
def wsX1_hasNote : List Cond := .code yX1_hasNote cX1_hasNote 2 (some .boolean) :: ([.fieldLink RX1 21 "GlassHarp$Score" "notes" "I"] ++ wsX10)
def wsX1_write : List Cond := .code yX1_write cX1_write 4 (some .boolean) :: ([.fieldLink RX1 21 "GlassHarp$Score" "notes" "I", .fieldLink RX1 9 "GlassHarp$Score" "beats" "[I", .fieldLink RX1 15 "GlassHarp$Score" "tones" "[I", .fieldLink RX1 18 "GlassHarp$Score" "forces" "[I"] ++ wsX10)
def wsX1_takeOut : List Cond := .code yX1_takeOut cX1_takeOut 3 none :: ([.fieldLink RX1 21 "GlassHarp$Score" "notes" "I", .fieldLink RX1 9 "GlassHarp$Score" "beats" "[I", .fieldLink RX1 15 "GlassHarp$Score" "tones" "[I", .fieldLink RX1 18 "GlassHarp$Score" "forces" "[I", .methodLink RX1 28 yX1_hasNote, .instanceMethod yX1_hasNote, .selects RX1 yX1_hasNote yX1_hasNote, .initialized RX1, .code yX1_hasNote cX1_hasNote 2 (some .boolean)] ++ wsX10)
def wsX2_init_r1 : List Cond := [Cond.methodLink RX2 1 objectInit, Cond.instanceMethod objectInit, Cond.code objectInit ⟨#[0xb1]⟩ 1 none, Cond.classLink RX2 7 RX1, Cond.instantiable RX1 5, Cond.initialized RX1, Cond.fieldLink RX2 10 "GlassHarp" "score" "LGlassHarp$Score;", Cond.classLink RX2 16 RX0, Cond.instantiable RX0 15, Cond.initialized RX0, Cond.fieldLink RX2 21 "GlassHarp" "now" "LGlassHarp$Orchestra;", Cond.fieldLink RX2 25 "GlassHarp" "trial" "LGlassHarp$Orchestra;", Cond.instanceMethod yX1_init, Cond.code yX1_init cX1_init 1 none, Cond.methodLink RX1 3 objectInit, Cond.arrayClass .int, Cond.fieldLink RX1 9 "GlassHarp$Score" "beats" "[I", Cond.fieldLink RX1 15 "GlassHarp$Score" "tones" "[I", Cond.fieldLink RX1 18 "GlassHarp$Score" "forces" "[I", Cond.fieldLink RX1 21 "GlassHarp$Score" "notes" "I", Cond.fieldLink RX1 25 "GlassHarp$Score" "length" "I", Cond.instanceMethod yX0_init, Cond.code yX0_init cX0_init 3 none, Cond.methodLink RX0 3 objectInit]
def wsX2_init_r2 : List Cond := [Cond.fieldLink RX0 9 "GlassHarp$Orchestra" "rows" "[I", Cond.fieldLink RX0 15 "GlassHarp$Orchestra" "sizes" "[I", Cond.fieldLink RX0 18 "GlassHarp$Orchestra" "drops" "[I", Cond.arrayClass .boolean, Cond.fieldLink RX0 21 "GlassHarp$Orchestra" "cracked" "[Z", Cond.fieldLink RX0 25 "GlassHarp$Orchestra" "rings" "[I", Cond.fieldLink RX0 28 "GlassHarp$Orchestra" "plays" "[I", Cond.fieldLink RX0 31 "GlassHarp$Orchestra" "busy" "[Z", Cond.fieldLink RX0 34 "GlassHarp$Orchestra" "air" "[I", Cond.fieldLink RX0 37 "GlassHarp$Orchestra" "pumps" "[I", Cond.fieldLink RX0 40 "GlassHarp$Orchestra" "glasses" "I", Cond.fieldLink RX0 44 "GlassHarp$Orchestra" "beat" "I", Cond.fieldLink RX0 47 "GlassHarp$Orchestra" "played" "I", Cond.fieldLink RX0 50 "GlassHarp$Orchestra" "inTune" "I", Cond.fieldLink RX0 53 "GlassHarp$Orchestra" "missed" "I", Cond.fieldLink RX0 56 "GlassHarp$Orchestra" "score" "LGlassHarp$Score;"]
def wsX2_init : List Cond := .code yX2_init cX2_init 1 none :: ((wsX2_init_r1 ++ wsX2_init_r2) ++ wsX10 ++ wsX20 ++ wsX00)
def wsX2_set : List Cond := .code yX2_set cX2_set 5 (some .int) :: ([.classLink RX2 32 "java/lang/IllegalArgumentException", .initialized "java/lang/IllegalArgumentException", .classLink RX2 45 "java/lang/IllegalStateException", .initialized "java/lang/IllegalStateException", .fieldLink RX2 21 "GlassHarp" "now" "LGlassHarp$Orchestra;", .methodLink RX2 28 yX2_isWithin, .static yX2_isWithin, .initialized RX2, .code yX2_isWithin cX2_isWithin 3 (some .boolean), .instanceMethod yX0_addGlass, .initialized RX0, .selects RX0 yX0_addGlass yX0_addGlass, .code yX0_addGlass cX0_addGlass 5 (some .int), .fieldLink RX0 40 "GlassHarp$Orchestra" "glasses" "I", .fieldLink RX0 9 "GlassHarp$Orchestra" "rows" "[I", .fieldLink RX0 15 "GlassHarp$Orchestra" "sizes" "[I", .fieldLink RX0 18 "GlassHarp$Orchestra" "drops" "[I"] ++ wsX20 ++ wsX00 ++ (vx_atS RX2 36 "java/lang/IllegalArgumentException" ["java/lang/RuntimeException", "java/lang/Exception"]).filter goodWord ++ (vx_atS RX2 49 "java/lang/IllegalStateException" ["java/lang/RuntimeException", "java/lang/Exception"]).filter goodWord)
def wsX2_drop_r1 : List Cond := [Cond.classLink RX2 54 "java/lang/IndexOutOfBoundsException", Cond.initialized "java/lang/IndexOutOfBoundsException", Cond.classLink RX2 32 "java/lang/IllegalArgumentException", Cond.initialized "java/lang/IllegalArgumentException", Cond.classLink RX2 45 "java/lang/IllegalStateException", Cond.initialized "java/lang/IllegalStateException", Cond.fieldLink RX2 21 "GlassHarp" "now" "LGlassHarp$Orchestra;", Cond.instanceMethod yX0_hasGlass, Cond.initialized RX0, Cond.selects RX0 yX0_hasGlass yX0_hasGlass, Cond.code yX0_hasGlass cX0_hasGlass 2 (some .boolean), Cond.fieldLink RX0 40 "GlassHarp$Orchestra" "glasses" "I", Cond.methodLink RX2 28 yX2_isWithin, Cond.static yX2_isWithin, Cond.initialized RX2, Cond.code yX2_isWithin cX2_isWithin 3 (some .boolean), Cond.instanceMethod yX0_mostDrops, Cond.selects RX0 yX0_mostDrops yX0_mostDrops, Cond.code yX0_mostDrops cX0_mostDrops 2 (some .int), Cond.fieldLink RX0 15 "GlassHarp$Orchestra" "sizes" "[I", Cond.methodLink RX0 64 yX0_hasGlass, Cond.instanceMethod yX0_toneOf, Cond.selects RX0 yX0_toneOf yX0_toneOf, Cond.code yX0_toneOf cX0_toneOf 4 (some .int)]
def wsX2_drop_r2 : List Cond := [Cond.fieldLink RX0 18 "GlassHarp$Orchestra" "drops" "[I", Cond.methodLink RX0 75 Lib.Math.max.name, Cond.static Lib.Math.max.name, Cond.initialized "java/lang/Math", Cond.code Lib.Math.max.name Lib.Math.max.code 2 (some .int), Cond.methodLink RX0 68 yX0_dropsPerTone, Cond.static yX0_dropsPerTone, Cond.code yX0_dropsPerTone cX0_dropsPerTone 1 (some .int), Cond.methodLink RX0 72 yX0_emptyTone, Cond.static yX0_emptyTone, Cond.code yX0_emptyTone cX0_emptyTone 1 (some .int)]
def wsX2_drop : List Cond := .code yX2_drop cX2_drop 4 (some .int) :: ((wsX2_drop_r1 ++ wsX2_drop_r2) ++ wsX20 ++ wsX00 ++ (vx_atS RX2 58 "java/lang/IndexOutOfBoundsException" ["java/lang/RuntimeException", "java/lang/Exception"]).filter goodWord ++ (vx_atS RX2 36 "java/lang/IllegalArgumentException" ["java/lang/RuntimeException", "java/lang/Exception"]).filter goodWord ++ (vx_atS RX2 49 "java/lang/IllegalStateException" ["java/lang/RuntimeException", "java/lang/Exception"]).filter goodWord)
def wsX2_pump : List Cond := .code yX2_pump cX2_pump 4 (some .int) :: ([.classLink RX2 54 "java/lang/IndexOutOfBoundsException", .initialized "java/lang/IndexOutOfBoundsException", .classLink RX2 32 "java/lang/IllegalArgumentException", .initialized "java/lang/IllegalArgumentException", .fieldLink RX2 21 "GlassHarp" "now" "LGlassHarp$Orchestra;", .methodLink RX2 28 yX2_isWithin, .static yX2_isWithin, .initialized RX2, .code yX2_isWithin cX2_isWithin 3 (some .boolean)] ++ wsX20 ++ wsX00 ++ (vx_atS RX2 58 "java/lang/IndexOutOfBoundsException" ["java/lang/RuntimeException", "java/lang/Exception"]).filter goodWord ++ (vx_atS RX2 36 "java/lang/IllegalArgumentException" ["java/lang/RuntimeException", "java/lang/Exception"]).filter goodWord)
def wsX2_glass_r1 : List Cond := [Cond.classLink RX2 54 "java/lang/IndexOutOfBoundsException", Cond.initialized "java/lang/IndexOutOfBoundsException", Cond.fieldLink RX2 21 "GlassHarp" "now" "LGlassHarp$Orchestra;", Cond.instanceMethod yX0_hasGlass, Cond.initialized RX0, Cond.selects RX0 yX0_hasGlass yX0_hasGlass, Cond.code yX0_hasGlass cX0_hasGlass 2 (some .boolean), Cond.fieldLink RX0 40 "GlassHarp$Orchestra" "glasses" "I", Cond.methodLink RX2 28 yX2_isWithin, Cond.static yX2_isWithin, Cond.initialized RX2, Cond.code yX2_isWithin cX2_isWithin 3 (some .boolean), Cond.instanceMethod yX0_toneOf, Cond.selects RX0 yX0_toneOf yX0_toneOf, Cond.code yX0_toneOf cX0_toneOf 4 (some .int), Cond.fieldLink RX0 15 "GlassHarp$Orchestra" "sizes" "[I", Cond.fieldLink RX0 18 "GlassHarp$Orchestra" "drops" "[I", Cond.methodLink RX0 75 Lib.Math.max.name, Cond.static Lib.Math.max.name, Cond.initialized "java/lang/Math", Cond.code Lib.Math.max.name Lib.Math.max.code 2 (some .int), Cond.methodLink RX0 64 yX0_hasGlass, Cond.methodLink RX0 68 yX0_dropsPerTone, Cond.static yX0_dropsPerTone]
def wsX2_glass_r2 : List Cond := [Cond.code yX0_dropsPerTone cX0_dropsPerTone 1 (some .int), Cond.methodLink RX0 72 yX0_emptyTone, Cond.static yX0_emptyTone, Cond.code yX0_emptyTone cX0_emptyTone 1 (some .int), Cond.instanceMethod yX0_glassesBeatingAgainst, Cond.selects RX0 yX0_glassesBeatingAgainst yX0_glassesBeatingAgainst, Cond.code yX0_glassesBeatingAgainst cX0_glassesBeatingAgainst 4 (some .int), Cond.methodLink RX0 97 yX0_beatAgainst, Cond.instanceMethod yX0_beatAgainst, Cond.selects RX0 yX0_beatAgainst yX0_beatAgainst, Cond.code yX0_beatAgainst cX0_beatAgainst 3 (some .boolean), Cond.fieldLink RX0 25 "GlassHarp$Orchestra" "rings" "[I", Cond.methodLink RX0 91 yX0_toneOf, Cond.static yX2_distance, Cond.code yX2_distance cX2_distance 2 (some .int)]
def wsX2_glass : List Cond := .code yX2_glass cX2_glass 3 (some .int) :: ((wsX2_glass_r1 ++ wsX2_glass_r2) ++ wsX20 ++ wsX00 ++ (vx_atS RX2 58 "java/lang/IndexOutOfBoundsException" ["java/lang/RuntimeException", "java/lang/Exception"]).filter goodWord)
def wsX2_row : List Cond := .code yX2_row cX2_row 3 (some .int) :: ([.classLink RX2 54 "java/lang/IndexOutOfBoundsException", .initialized "java/lang/IndexOutOfBoundsException", .fieldLink RX2 21 "GlassHarp" "now" "LGlassHarp$Orchestra;", .methodLink RX2 28 yX2_isWithin, .static yX2_isWithin, .initialized RX2, .code yX2_isWithin cX2_isWithin 3 (some .boolean), .instanceMethod yX0_glassesInRow, .initialized RX0, .selects RX0 yX0_glassesInRow yX0_glassesInRow, .code yX0_glassesInRow cX0_glassesInRow 4 (some .int), .fieldLink RX0 40 "GlassHarp$Orchestra" "glasses" "I", .fieldLink RX0 9 "GlassHarp$Orchestra" "rows" "[I"] ++ wsX20 ++ wsX00 ++ (vx_atS RX2 58 "java/lang/IndexOutOfBoundsException" ["java/lang/RuntimeException", "java/lang/Exception"]).filter goodWord)
def wsX2_setLength : List Cond := .code yX2_setLength cX2_setLength 3 (some .int) :: ([.classLink RX2 32 "java/lang/IllegalArgumentException", .initialized "java/lang/IllegalArgumentException", .fieldLink RX2 10 "GlassHarp" "score" "LGlassHarp$Score;", .methodLink RX2 28 yX2_isWithin, .static yX2_isWithin, .initialized RX2, .code yX2_isWithin cX2_isWithin 3 (some .boolean)] ++ wsX20 ++ wsX10 ++ (vx_atS RX2 36 "java/lang/IllegalArgumentException" ["java/lang/RuntimeException", "java/lang/Exception"]).filter goodWord)
def wsX2_note : List Cond := .code yX2_note cX2_note 4 (some .int) :: ([.classLink RX2 32 "java/lang/IllegalArgumentException", .initialized "java/lang/IllegalArgumentException", .classLink RX2 45 "java/lang/IllegalStateException", .initialized "java/lang/IllegalStateException", .fieldLink RX2 10 "GlassHarp" "score" "LGlassHarp$Score;", .methodLink RX2 28 yX2_isWithin, .static yX2_isWithin, .initialized RX2, .code yX2_isWithin cX2_isWithin 3 (some .boolean), .instanceMethod yX1_write, .initialized RX1, .selects RX1 yX1_write yX1_write, .code yX1_write cX1_write 4 (some .boolean), .fieldLink RX1 21 "GlassHarp$Score" "notes" "I", .fieldLink RX1 9 "GlassHarp$Score" "beats" "[I", .fieldLink RX1 15 "GlassHarp$Score" "tones" "[I", .fieldLink RX1 18 "GlassHarp$Score" "forces" "[I"] ++ wsX20 ++ wsX10 ++ (vx_atS RX2 36 "java/lang/IllegalArgumentException" ["java/lang/RuntimeException", "java/lang/Exception"]).filter goodWord ++ (vx_atS RX2 49 "java/lang/IllegalStateException" ["java/lang/RuntimeException", "java/lang/Exception"]).filter goodWord)
def wsX2_strike : List Cond := .code yX2_strike cX2_strike 3 (some .int) :: ([.classLink RX2 54 "java/lang/IndexOutOfBoundsException", .initialized "java/lang/IndexOutOfBoundsException", .fieldLink RX2 10 "GlassHarp" "score" "LGlassHarp$Score;", .instanceMethod yX1_hasNote, .initialized RX1, .selects RX1 yX1_hasNote yX1_hasNote, .code yX1_hasNote cX1_hasNote 2 (some .boolean), .fieldLink RX1 21 "GlassHarp$Score" "notes" "I", .instanceMethod yX1_takeOut, .selects RX1 yX1_takeOut yX1_takeOut, .code yX1_takeOut cX1_takeOut 3 none, .fieldLink RX1 9 "GlassHarp$Score" "beats" "[I", .fieldLink RX1 15 "GlassHarp$Score" "tones" "[I", .fieldLink RX1 18 "GlassHarp$Score" "forces" "[I", .methodLink RX1 28 yX1_hasNote] ++ wsX20 ++ wsX10 ++ (vx_atS RX2 58 "java/lang/IndexOutOfBoundsException" ["java/lang/RuntimeException", "java/lang/Exception"]).filter goodWord)
def wsX2_written : List Cond := .code yX2_written cX2_written 3 (some .int) :: ([.classLink RX2 54 "java/lang/IndexOutOfBoundsException", .initialized "java/lang/IndexOutOfBoundsException", .fieldLink RX2 10 "GlassHarp" "score" "LGlassHarp$Score;", .instanceMethod yX1_hasNote, .initialized RX1, .selects RX1 yX1_hasNote yX1_hasNote, .code yX1_hasNote cX1_hasNote 2 (some .boolean), .fieldLink RX1 21 "GlassHarp$Score" "notes" "I", .methodLink RX2 28 yX2_isWithin, .static yX2_isWithin, .initialized RX2, .code yX2_isWithin cX2_isWithin 3 (some .boolean)] ++ wsX20 ++ wsX10 ++ (vx_atS RX2 58 "java/lang/IndexOutOfBoundsException" ["java/lang/RuntimeException", "java/lang/Exception"]).filter goodWord)
def wsX2_play_r1 : List Cond := [Cond.classLink RX2 32 "java/lang/IllegalArgumentException", Cond.initialized "java/lang/IllegalArgumentException", Cond.fieldLink RX2 21 "GlassHarp" "now" "LGlassHarp$Orchestra;", Cond.methodLink RX2 28 yX2_isWithin, Cond.static yX2_isWithin, Cond.initialized RX2, Cond.code yX2_isWithin cX2_isWithin 3 (some .boolean), Cond.instanceMethod yX0_letGoBy, Cond.initialized RX0, Cond.selects RX0 yX0_letGoBy yX0_letGoBy, Cond.code yX0_letGoBy cX0_letGoBy 3 none, Cond.fieldLink RX0 44 "GlassHarp$Orchestra" "beat" "I", Cond.methodLink RX0 103 yX0_fillBellows, Cond.instanceMethod yX0_fillBellows, Cond.selects RX0 yX0_fillBellows yX0_fillBellows, Cond.code yX0_fillBellows cX0_fillBellows 2 none, Cond.fieldLink RX0 34 "GlassHarp$Orchestra" "air" "[I", Cond.fieldLink RX0 37 "GlassHarp$Orchestra" "pumps" "[I", Cond.methodLink RX0 112 Lib.Math.min.name, Cond.static Lib.Math.min.name, Cond.initialized "java/lang/Math", Cond.code Lib.Math.min.name Lib.Math.min.code 2 (some .int), Cond.methodLink RX0 106 yX0_playNotes, Cond.instanceMethod yX0_playNotes]
def wsX2_play_r2 : List Cond := [Cond.selects RX0 yX0_playNotes yX0_playNotes, Cond.code yX0_playNotes cX0_playNotes 4 none, Cond.fieldLink RX0 40 "GlassHarp$Orchestra" "glasses" "I", Cond.fieldLink RX0 31 "GlassHarp$Orchestra" "busy" "[Z", Cond.fieldLink RX0 56 "GlassHarp$Orchestra" "score" "LGlassHarp$Score;", Cond.fieldLink RX0 53 "GlassHarp$Orchestra" "missed" "I", Cond.instanceMethod yX1_beatAt, Cond.initialized RX1, Cond.selects RX1 yX1_beatAt yX1_beatAt, Cond.code yX1_beatAt cX1_beatAt 2 (some .int), Cond.fieldLink RX1 25 "GlassHarp$Score" "length" "I", Cond.methodLink RX0 132 yX0_playerFor, Cond.instanceMethod yX0_playerFor, Cond.selects RX0 yX0_playerFor yX0_playerFor, Cond.code yX0_playerFor cX0_playerFor 7 (some .int), Cond.fieldLink RX0 21 "GlassHarp$Orchestra" "cracked" "[Z", Cond.fieldLink RX0 9 "GlassHarp$Orchestra" "rows" "[I", Cond.methodLink RX0 139 yX0_hasAir, Cond.instanceMethod yX0_hasAir, Cond.selects RX0 yX0_hasAir yX0_hasAir, Cond.code yX0_hasAir cX0_hasAir 3 (some .boolean), Cond.methodLink RX0 91 yX0_toneOf, Cond.instanceMethod yX0_toneOf, Cond.selects RX0 yX0_toneOf yX0_toneOf]
def wsX2_play_r3 : List Cond := [Cond.code yX0_toneOf cX0_toneOf 4 (some .int), Cond.fieldLink RX0 15 "GlassHarp$Orchestra" "sizes" "[I", Cond.fieldLink RX0 18 "GlassHarp$Orchestra" "drops" "[I", Cond.methodLink RX0 75 Lib.Math.max.name, Cond.static Lib.Math.max.name, Cond.code Lib.Math.max.name Lib.Math.max.code 2 (some .int), Cond.methodLink RX0 64 yX0_hasGlass, Cond.instanceMethod yX0_hasGlass, Cond.selects RX0 yX0_hasGlass yX0_hasGlass, Cond.code yX0_hasGlass cX0_hasGlass 2 (some .boolean), Cond.methodLink RX0 68 yX0_dropsPerTone, Cond.static yX0_dropsPerTone, Cond.code yX0_dropsPerTone cX0_dropsPerTone 1 (some .int), Cond.methodLink RX0 72 yX0_emptyTone, Cond.static yX0_emptyTone, Cond.code yX0_emptyTone cX0_emptyTone 1 (some .int), Cond.static yX2_distance, Cond.code yX2_distance cX2_distance 2 (some .int), Cond.methodLink RX0 135 yX0_rub, Cond.instanceMethod yX0_rub, Cond.selects RX0 yX0_rub yX0_rub, Cond.code yX0_rub cX0_rub 5 none, Cond.fieldLink RX0 47 "GlassHarp$Orchestra" "played" "I", Cond.fieldLink RX0 50 "GlassHarp$Orchestra" "inTune" "I"]
def wsX2_play_r4 : List Cond := [Cond.fieldLink RX0 28 "GlassHarp$Orchestra" "plays" "[I", Cond.fieldLink RX0 25 "GlassHarp$Orchestra" "rings" "[I", Cond.methodLink RX0 109 yX0_fadeAndDry, Cond.instanceMethod yX0_fadeAndDry, Cond.selects RX0 yX0_fadeAndDry yX0_fadeAndDry, Cond.code yX0_fadeAndDry cX0_fadeAndDry 3 none]
def wsX2_play : List Cond := .code yX2_play cX2_play 3 (some .int) :: ((wsX2_play_r1 ++ (wsX2_play_r2 ++ (wsX2_play_r3 ++ wsX2_play_r4))) ++ wsX20 ++ wsX00 ++ wsX10 ++ (vx_atS RX2 36 "java/lang/IllegalArgumentException" ["java/lang/RuntimeException", "java/lang/Exception"]).filter goodWord)
def wsX2_count_r1 : List Cond := [Cond.classLink RX2 54 "java/lang/IndexOutOfBoundsException", Cond.initialized "java/lang/IndexOutOfBoundsException", Cond.fieldLink RX2 21 "GlassHarp" "now" "LGlassHarp$Orchestra;", Cond.fieldLink RX2 10 "GlassHarp" "score" "LGlassHarp$Score;", Cond.methodLink RX2 28 yX2_isWithin, Cond.static yX2_isWithin, Cond.initialized RX2, Cond.code yX2_isWithin cX2_isWithin 3 (some .boolean), Cond.instanceMethod yX0_crackedGlasses, Cond.initialized RX0, Cond.selects RX0 yX0_crackedGlasses yX0_crackedGlasses, Cond.code yX0_crackedGlasses cX0_crackedGlasses 3 (some .int), Cond.fieldLink RX0 40 "GlassHarp$Orchestra" "glasses" "I", Cond.fieldLink RX0 21 "GlassHarp$Orchestra" "cracked" "[Z", Cond.instanceMethod yX0_allAir, Cond.selects RX0 yX0_allAir yX0_allAir, Cond.code yX0_allAir cX0_allAir 3 (some .int), Cond.fieldLink RX0 34 "GlassHarp$Orchestra" "air" "[I", Cond.instanceMethod yX0_pairsBeating, Cond.selects RX0 yX0_pairsBeating yX0_pairsBeating, Cond.code yX0_pairsBeating cX0_pairsBeating 3 (some .int), Cond.methodLink RX0 100 yX0_glassesBeatingAgainst, Cond.instanceMethod yX0_glassesBeatingAgainst, Cond.selects RX0 yX0_glassesBeatingAgainst yX0_glassesBeatingAgainst]
def wsX2_count_r2 : List Cond := [Cond.code yX0_glassesBeatingAgainst cX0_glassesBeatingAgainst 4 (some .int), Cond.methodLink RX0 97 yX0_beatAgainst, Cond.instanceMethod yX0_beatAgainst, Cond.selects RX0 yX0_beatAgainst yX0_beatAgainst, Cond.code yX0_beatAgainst cX0_beatAgainst 3 (some .boolean), Cond.fieldLink RX0 25 "GlassHarp$Orchestra" "rings" "[I", Cond.methodLink RX0 64 yX0_hasGlass, Cond.instanceMethod yX0_hasGlass, Cond.selects RX0 yX0_hasGlass yX0_hasGlass, Cond.code yX0_hasGlass cX0_hasGlass 2 (some .boolean), Cond.methodLink RX0 91 yX0_toneOf, Cond.instanceMethod yX0_toneOf, Cond.selects RX0 yX0_toneOf yX0_toneOf, Cond.code yX0_toneOf cX0_toneOf 4 (some .int), Cond.fieldLink RX0 15 "GlassHarp$Orchestra" "sizes" "[I", Cond.fieldLink RX0 18 "GlassHarp$Orchestra" "drops" "[I", Cond.methodLink RX0 75 Lib.Math.max.name, Cond.static Lib.Math.max.name, Cond.initialized "java/lang/Math", Cond.code Lib.Math.max.name Lib.Math.max.code 2 (some .int), Cond.methodLink RX0 68 yX0_dropsPerTone, Cond.static yX0_dropsPerTone, Cond.code yX0_dropsPerTone cX0_dropsPerTone 1 (some .int), Cond.methodLink RX0 72 yX0_emptyTone]
def wsX2_count_r3 : List Cond := [Cond.static yX0_emptyTone, Cond.code yX0_emptyTone cX0_emptyTone 1 (some .int), Cond.static yX2_distance, Cond.code yX2_distance cX2_distance 2 (some .int)]
def wsX2_count : List Cond := .code yX2_count cX2_count 2 (some .int) :: ((wsX2_count_r1 ++ (wsX2_count_r2 ++ wsX2_count_r3)) ++ wsX20 ++ wsX00 ++ wsX10 ++ (vx_atS RX2 58 "java/lang/IndexOutOfBoundsException" ["java/lang/RuntimeException", "java/lang/Exception"]).filter goodWord)
def wsX2_needs_r1 : List Cond := [Cond.classLink RX2 54 "java/lang/IndexOutOfBoundsException", Cond.initialized "java/lang/IndexOutOfBoundsException", Cond.classLink RX2 32 "java/lang/IllegalArgumentException", Cond.initialized "java/lang/IllegalArgumentException", Cond.fieldLink RX2 21 "GlassHarp" "now" "LGlassHarp$Orchestra;", Cond.instanceMethod yX0_hasGlass, Cond.initialized RX0, Cond.selects RX0 yX0_hasGlass yX0_hasGlass, Cond.code yX0_hasGlass cX0_hasGlass 2 (some .boolean), Cond.fieldLink RX0 40 "GlassHarp$Orchestra" "glasses" "I", Cond.methodLink RX2 28 yX2_isWithin, Cond.static yX2_isWithin, Cond.initialized RX2, Cond.code yX2_isWithin cX2_isWithin 3 (some .boolean), Cond.instanceMethod yX0_fewestDropsFor, Cond.selects RX0 yX0_fewestDropsFor yX0_fewestDropsFor, Cond.code yX0_fewestDropsFor cX0_fewestDropsFor 5 (some .int), Cond.fieldLink RX0 15 "GlassHarp$Orchestra" "sizes" "[I", Cond.methodLink RX0 64 yX0_hasGlass, Cond.methodLink RX0 68 yX0_dropsPerTone, Cond.static yX0_dropsPerTone, Cond.code yX0_dropsPerTone cX0_dropsPerTone 1 (some .int), Cond.methodLink RX0 72 yX0_emptyTone, Cond.static yX0_emptyTone]
def wsX2_needs_r2 : List Cond := [Cond.code yX0_emptyTone cX0_emptyTone 1 (some .int), Cond.methodLink RX0 81 yX0_mostDrops, Cond.instanceMethod yX0_mostDrops, Cond.selects RX0 yX0_mostDrops yX0_mostDrops, Cond.code yX0_mostDrops cX0_mostDrops 2 (some .int)]
def wsX2_needs : List Cond := .code yX2_needs cX2_needs 3 (some .int) :: ((wsX2_needs_r1 ++ wsX2_needs_r2) ++ wsX20 ++ wsX00 ++ (vx_atS RX2 58 "java/lang/IndexOutOfBoundsException" ["java/lang/RuntimeException", "java/lang/Exception"]).filter goodWord ++ (vx_atS RX2 36 "java/lang/IllegalArgumentException" ["java/lang/RuntimeException", "java/lang/Exception"]).filter goodWord)
def wsX2_foresee_r1 : List Cond := [Cond.classLink RX2 32 "java/lang/IllegalArgumentException", Cond.initialized "java/lang/IllegalArgumentException", Cond.classLink RX2 54 "java/lang/IndexOutOfBoundsException", Cond.initialized "java/lang/IndexOutOfBoundsException", Cond.fieldLink RX2 25 "GlassHarp" "trial" "LGlassHarp$Orchestra;", Cond.fieldLink RX2 21 "GlassHarp" "now" "LGlassHarp$Orchestra;", Cond.methodLink RX2 28 yX2_isWithin, Cond.static yX2_isWithin, Cond.initialized RX2, Cond.code yX2_isWithin cX2_isWithin 3 (some .boolean), Cond.instanceMethod yX0_takeOver, Cond.initialized RX0, Cond.selects RX0 yX0_takeOver yX0_takeOver, Cond.code yX0_takeOver cX0_takeOver 3 none, Cond.fieldLink RX0 40 "GlassHarp$Orchestra" "glasses" "I", Cond.fieldLink RX0 9 "GlassHarp$Orchestra" "rows" "[I", Cond.fieldLink RX0 15 "GlassHarp$Orchestra" "sizes" "[I", Cond.fieldLink RX0 18 "GlassHarp$Orchestra" "drops" "[I", Cond.fieldLink RX0 21 "GlassHarp$Orchestra" "cracked" "[Z", Cond.fieldLink RX0 25 "GlassHarp$Orchestra" "rings" "[I", Cond.fieldLink RX0 28 "GlassHarp$Orchestra" "plays" "[I", Cond.fieldLink RX0 34 "GlassHarp$Orchestra" "air" "[I", Cond.fieldLink RX0 37 "GlassHarp$Orchestra" "pumps" "[I", Cond.fieldLink RX0 44 "GlassHarp$Orchestra" "beat" "I"]
def wsX2_foresee_r2 : List Cond := [Cond.fieldLink RX0 47 "GlassHarp$Orchestra" "played" "I", Cond.fieldLink RX0 50 "GlassHarp$Orchestra" "inTune" "I", Cond.fieldLink RX0 53 "GlassHarp$Orchestra" "missed" "I", Cond.instanceMethod yX0_letGoBy, Cond.selects RX0 yX0_letGoBy yX0_letGoBy, Cond.code yX0_letGoBy cX0_letGoBy 3 none, Cond.methodLink RX0 103 yX0_fillBellows, Cond.instanceMethod yX0_fillBellows, Cond.selects RX0 yX0_fillBellows yX0_fillBellows, Cond.code yX0_fillBellows cX0_fillBellows 2 none, Cond.methodLink RX0 112 Lib.Math.min.name, Cond.static Lib.Math.min.name, Cond.initialized "java/lang/Math", Cond.code Lib.Math.min.name Lib.Math.min.code 2 (some .int), Cond.methodLink RX0 106 yX0_playNotes, Cond.instanceMethod yX0_playNotes, Cond.selects RX0 yX0_playNotes yX0_playNotes, Cond.code yX0_playNotes cX0_playNotes 4 none, Cond.fieldLink RX0 31 "GlassHarp$Orchestra" "busy" "[Z", Cond.fieldLink RX0 56 "GlassHarp$Orchestra" "score" "LGlassHarp$Score;", Cond.instanceMethod yX1_beatAt, Cond.initialized RX1, Cond.selects RX1 yX1_beatAt yX1_beatAt, Cond.code yX1_beatAt cX1_beatAt 2 (some .int)]
def wsX2_foresee_r3 : List Cond := [Cond.fieldLink RX1 25 "GlassHarp$Score" "length" "I", Cond.methodLink RX0 132 yX0_playerFor, Cond.instanceMethod yX0_playerFor, Cond.selects RX0 yX0_playerFor yX0_playerFor, Cond.code yX0_playerFor cX0_playerFor 7 (some .int), Cond.methodLink RX0 139 yX0_hasAir, Cond.instanceMethod yX0_hasAir, Cond.selects RX0 yX0_hasAir yX0_hasAir, Cond.code yX0_hasAir cX0_hasAir 3 (some .boolean), Cond.methodLink RX0 91 yX0_toneOf, Cond.instanceMethod yX0_toneOf, Cond.selects RX0 yX0_toneOf yX0_toneOf, Cond.code yX0_toneOf cX0_toneOf 4 (some .int), Cond.methodLink RX0 75 Lib.Math.max.name, Cond.static Lib.Math.max.name, Cond.code Lib.Math.max.name Lib.Math.max.code 2 (some .int), Cond.methodLink RX0 64 yX0_hasGlass, Cond.instanceMethod yX0_hasGlass, Cond.selects RX0 yX0_hasGlass yX0_hasGlass, Cond.code yX0_hasGlass cX0_hasGlass 2 (some .boolean), Cond.methodLink RX0 68 yX0_dropsPerTone, Cond.static yX0_dropsPerTone, Cond.code yX0_dropsPerTone cX0_dropsPerTone 1 (some .int), Cond.methodLink RX0 72 yX0_emptyTone]
def wsX2_foresee_r4 : List Cond := [Cond.static yX0_emptyTone, Cond.code yX0_emptyTone cX0_emptyTone 1 (some .int), Cond.static yX2_distance, Cond.code yX2_distance cX2_distance 2 (some .int), Cond.methodLink RX0 135 yX0_rub, Cond.instanceMethod yX0_rub, Cond.selects RX0 yX0_rub yX0_rub, Cond.code yX0_rub cX0_rub 5 none, Cond.methodLink RX0 109 yX0_fadeAndDry, Cond.instanceMethod yX0_fadeAndDry, Cond.selects RX0 yX0_fadeAndDry yX0_fadeAndDry, Cond.code yX0_fadeAndDry cX0_fadeAndDry 3 none, Cond.instanceMethod yX0_crackedGlasses, Cond.selects RX0 yX0_crackedGlasses yX0_crackedGlasses, Cond.code yX0_crackedGlasses cX0_crackedGlasses 3 (some .int)]
def wsX2_foresee : List Cond := .code yX2_foresee cX2_foresee 3 (some .int) :: ((wsX2_foresee_r1 ++ (wsX2_foresee_r2 ++ (wsX2_foresee_r3 ++ wsX2_foresee_r4))) ++ wsX20 ++ wsX00 ++ wsX10 ++ (vx_atS RX2 36 "java/lang/IllegalArgumentException" ["java/lang/RuntimeException", "java/lang/Exception"]).filter goodWord ++ (vx_atS RX2 58 "java/lang/IndexOutOfBoundsException" ["java/lang/RuntimeException", "java/lang/Exception"]).filter goodWord)
def wsX2_inTuneIfTuned_r1 : List Cond := [Cond.fieldLink RX2 25 "GlassHarp" "trial" "LGlassHarp$Orchestra;", Cond.fieldLink RX2 21 "GlassHarp" "now" "LGlassHarp$Orchestra;", Cond.instanceMethod yX0_takeOver, Cond.initialized RX0, Cond.selects RX0 yX0_takeOver yX0_takeOver, Cond.code yX0_takeOver cX0_takeOver 3 none, Cond.fieldLink RX0 40 "GlassHarp$Orchestra" "glasses" "I", Cond.fieldLink RX0 9 "GlassHarp$Orchestra" "rows" "[I", Cond.fieldLink RX0 15 "GlassHarp$Orchestra" "sizes" "[I", Cond.fieldLink RX0 18 "GlassHarp$Orchestra" "drops" "[I", Cond.fieldLink RX0 21 "GlassHarp$Orchestra" "cracked" "[Z", Cond.fieldLink RX0 25 "GlassHarp$Orchestra" "rings" "[I", Cond.fieldLink RX0 28 "GlassHarp$Orchestra" "plays" "[I", Cond.fieldLink RX0 34 "GlassHarp$Orchestra" "air" "[I", Cond.fieldLink RX0 37 "GlassHarp$Orchestra" "pumps" "[I", Cond.fieldLink RX0 44 "GlassHarp$Orchestra" "beat" "I", Cond.fieldLink RX0 47 "GlassHarp$Orchestra" "played" "I", Cond.fieldLink RX0 50 "GlassHarp$Orchestra" "inTune" "I", Cond.fieldLink RX0 53 "GlassHarp$Orchestra" "missed" "I", Cond.instanceMethod yX0_tuneTo, Cond.selects RX0 yX0_tuneTo yX0_tuneTo, Cond.code yX0_tuneTo cX0_tuneTo 3 none, Cond.methodLink RX0 87 yX0_canBeTuned, Cond.instanceMethod yX0_canBeTuned]
def wsX2_inTuneIfTuned_r2 : List Cond := [Cond.selects RX0 yX0_canBeTuned yX0_canBeTuned, Cond.code yX0_canBeTuned cX0_canBeTuned 3 (some .boolean), Cond.methodLink RX0 64 yX0_hasGlass, Cond.instanceMethod yX0_hasGlass, Cond.selects RX0 yX0_hasGlass yX0_hasGlass, Cond.code yX0_hasGlass cX0_hasGlass 2 (some .boolean), Cond.methodLink RX0 84 yX0_fewestDropsFor, Cond.instanceMethod yX0_fewestDropsFor, Cond.selects RX0 yX0_fewestDropsFor yX0_fewestDropsFor, Cond.code yX0_fewestDropsFor cX0_fewestDropsFor 5 (some .int), Cond.methodLink RX0 68 yX0_dropsPerTone, Cond.static yX0_dropsPerTone, Cond.code yX0_dropsPerTone cX0_dropsPerTone 1 (some .int), Cond.methodLink RX0 72 yX0_emptyTone, Cond.static yX0_emptyTone, Cond.code yX0_emptyTone cX0_emptyTone 1 (some .int), Cond.methodLink RX0 81 yX0_mostDrops, Cond.instanceMethod yX0_mostDrops, Cond.selects RX0 yX0_mostDrops yX0_mostDrops, Cond.code yX0_mostDrops cX0_mostDrops 2 (some .int), Cond.static yX2_isWithin, Cond.initialized RX2, Cond.code yX2_isWithin cX2_isWithin 3 (some .boolean), Cond.instanceMethod yX0_letGoBy]
def wsX2_inTuneIfTuned_r3 : List Cond := [Cond.selects RX0 yX0_letGoBy yX0_letGoBy, Cond.code yX0_letGoBy cX0_letGoBy 3 none, Cond.methodLink RX0 103 yX0_fillBellows, Cond.instanceMethod yX0_fillBellows, Cond.selects RX0 yX0_fillBellows yX0_fillBellows, Cond.code yX0_fillBellows cX0_fillBellows 2 none, Cond.methodLink RX0 112 Lib.Math.min.name, Cond.static Lib.Math.min.name, Cond.initialized "java/lang/Math", Cond.code Lib.Math.min.name Lib.Math.min.code 2 (some .int), Cond.methodLink RX0 106 yX0_playNotes, Cond.instanceMethod yX0_playNotes, Cond.selects RX0 yX0_playNotes yX0_playNotes, Cond.code yX0_playNotes cX0_playNotes 4 none, Cond.fieldLink RX0 31 "GlassHarp$Orchestra" "busy" "[Z", Cond.fieldLink RX0 56 "GlassHarp$Orchestra" "score" "LGlassHarp$Score;", Cond.instanceMethod yX1_beatAt, Cond.initialized RX1, Cond.selects RX1 yX1_beatAt yX1_beatAt, Cond.code yX1_beatAt cX1_beatAt 2 (some .int), Cond.fieldLink RX1 25 "GlassHarp$Score" "length" "I", Cond.methodLink RX0 132 yX0_playerFor, Cond.instanceMethod yX0_playerFor, Cond.selects RX0 yX0_playerFor yX0_playerFor]
def wsX2_inTuneIfTuned_r4 : List Cond := [Cond.code yX0_playerFor cX0_playerFor 7 (some .int), Cond.methodLink RX0 139 yX0_hasAir, Cond.instanceMethod yX0_hasAir, Cond.selects RX0 yX0_hasAir yX0_hasAir, Cond.code yX0_hasAir cX0_hasAir 3 (some .boolean), Cond.methodLink RX0 91 yX0_toneOf, Cond.instanceMethod yX0_toneOf, Cond.selects RX0 yX0_toneOf yX0_toneOf, Cond.code yX0_toneOf cX0_toneOf 4 (some .int), Cond.methodLink RX0 75 Lib.Math.max.name, Cond.static Lib.Math.max.name, Cond.code Lib.Math.max.name Lib.Math.max.code 2 (some .int), Cond.static yX2_distance, Cond.code yX2_distance cX2_distance 2 (some .int), Cond.methodLink RX0 135 yX0_rub, Cond.instanceMethod yX0_rub, Cond.selects RX0 yX0_rub yX0_rub, Cond.code yX0_rub cX0_rub 5 none, Cond.methodLink RX0 109 yX0_fadeAndDry, Cond.instanceMethod yX0_fadeAndDry, Cond.selects RX0 yX0_fadeAndDry yX0_fadeAndDry, Cond.code yX0_fadeAndDry cX0_fadeAndDry 3 none]
def wsX2_inTuneIfTuned : List Cond := .code yX2_inTuneIfTuned cX2_inTuneIfTuned 4 (some .int) :: ((wsX2_inTuneIfTuned_r1 ++ (wsX2_inTuneIfTuned_r2 ++ (wsX2_inTuneIfTuned_r3 ++ wsX2_inTuneIfTuned_r4))) ++ wsX20 ++ wsX00 ++ wsX10)
def wsX2_advise_r1 : List Cond := [Cond.classLink RX2 32 "java/lang/IllegalArgumentException", Cond.initialized "java/lang/IllegalArgumentException", Cond.fieldLink RX2 25 "GlassHarp" "trial" "LGlassHarp$Orchestra;", Cond.fieldLink RX2 21 "GlassHarp" "now" "LGlassHarp$Orchestra;", Cond.methodLink RX2 28 yX2_isWithin, Cond.static yX2_isWithin, Cond.initialized RX2, Cond.code yX2_isWithin cX2_isWithin 3 (some .boolean), Cond.instanceMethod yX0_takeOver, Cond.initialized RX0, Cond.selects RX0 yX0_takeOver yX0_takeOver, Cond.code yX0_takeOver cX0_takeOver 3 none, Cond.fieldLink RX0 40 "GlassHarp$Orchestra" "glasses" "I", Cond.fieldLink RX0 9 "GlassHarp$Orchestra" "rows" "[I", Cond.fieldLink RX0 15 "GlassHarp$Orchestra" "sizes" "[I", Cond.fieldLink RX0 18 "GlassHarp$Orchestra" "drops" "[I", Cond.fieldLink RX0 21 "GlassHarp$Orchestra" "cracked" "[Z", Cond.fieldLink RX0 25 "GlassHarp$Orchestra" "rings" "[I", Cond.fieldLink RX0 28 "GlassHarp$Orchestra" "plays" "[I", Cond.fieldLink RX0 34 "GlassHarp$Orchestra" "air" "[I", Cond.fieldLink RX0 37 "GlassHarp$Orchestra" "pumps" "[I", Cond.fieldLink RX0 44 "GlassHarp$Orchestra" "beat" "I", Cond.fieldLink RX0 47 "GlassHarp$Orchestra" "played" "I", Cond.fieldLink RX0 50 "GlassHarp$Orchestra" "inTune" "I"]
def wsX2_advise_r2 : List Cond := [Cond.fieldLink RX0 53 "GlassHarp$Orchestra" "missed" "I", Cond.instanceMethod yX0_letGoBy, Cond.selects RX0 yX0_letGoBy yX0_letGoBy, Cond.code yX0_letGoBy cX0_letGoBy 3 none, Cond.methodLink RX0 103 yX0_fillBellows, Cond.instanceMethod yX0_fillBellows, Cond.selects RX0 yX0_fillBellows yX0_fillBellows, Cond.code yX0_fillBellows cX0_fillBellows 2 none, Cond.methodLink RX0 112 Lib.Math.min.name, Cond.static Lib.Math.min.name, Cond.initialized "java/lang/Math", Cond.code Lib.Math.min.name Lib.Math.min.code 2 (some .int), Cond.methodLink RX0 106 yX0_playNotes, Cond.instanceMethod yX0_playNotes, Cond.selects RX0 yX0_playNotes yX0_playNotes, Cond.code yX0_playNotes cX0_playNotes 4 none, Cond.fieldLink RX0 31 "GlassHarp$Orchestra" "busy" "[Z", Cond.fieldLink RX0 56 "GlassHarp$Orchestra" "score" "LGlassHarp$Score;", Cond.instanceMethod yX1_beatAt, Cond.initialized RX1, Cond.selects RX1 yX1_beatAt yX1_beatAt, Cond.code yX1_beatAt cX1_beatAt 2 (some .int), Cond.fieldLink RX1 25 "GlassHarp$Score" "length" "I", Cond.methodLink RX0 132 yX0_playerFor]
def wsX2_advise_r3 : List Cond := [Cond.instanceMethod yX0_playerFor, Cond.selects RX0 yX0_playerFor yX0_playerFor, Cond.code yX0_playerFor cX0_playerFor 7 (some .int), Cond.methodLink RX0 139 yX0_hasAir, Cond.instanceMethod yX0_hasAir, Cond.selects RX0 yX0_hasAir yX0_hasAir, Cond.code yX0_hasAir cX0_hasAir 3 (some .boolean), Cond.methodLink RX0 91 yX0_toneOf, Cond.instanceMethod yX0_toneOf, Cond.selects RX0 yX0_toneOf yX0_toneOf, Cond.code yX0_toneOf cX0_toneOf 4 (some .int), Cond.methodLink RX0 75 Lib.Math.max.name, Cond.static Lib.Math.max.name, Cond.code Lib.Math.max.name Lib.Math.max.code 2 (some .int), Cond.methodLink RX0 64 yX0_hasGlass, Cond.instanceMethod yX0_hasGlass, Cond.selects RX0 yX0_hasGlass yX0_hasGlass, Cond.code yX0_hasGlass cX0_hasGlass 2 (some .boolean), Cond.methodLink RX0 68 yX0_dropsPerTone, Cond.static yX0_dropsPerTone, Cond.code yX0_dropsPerTone cX0_dropsPerTone 1 (some .int), Cond.methodLink RX0 72 yX0_emptyTone, Cond.static yX0_emptyTone, Cond.code yX0_emptyTone cX0_emptyTone 1 (some .int)]
def wsX2_advise_r4 : List Cond := [Cond.static yX2_distance, Cond.code yX2_distance cX2_distance 2 (some .int), Cond.methodLink RX0 135 yX0_rub, Cond.instanceMethod yX0_rub, Cond.selects RX0 yX0_rub yX0_rub, Cond.code yX0_rub cX0_rub 5 none, Cond.methodLink RX0 109 yX0_fadeAndDry, Cond.instanceMethod yX0_fadeAndDry, Cond.selects RX0 yX0_fadeAndDry yX0_fadeAndDry, Cond.code yX0_fadeAndDry cX0_fadeAndDry 3 none, Cond.instanceMethod yX0_canBeTuned, Cond.selects RX0 yX0_canBeTuned yX0_canBeTuned, Cond.code yX0_canBeTuned cX0_canBeTuned 3 (some .boolean), Cond.methodLink RX0 84 yX0_fewestDropsFor, Cond.instanceMethod yX0_fewestDropsFor, Cond.selects RX0 yX0_fewestDropsFor yX0_fewestDropsFor, Cond.code yX0_fewestDropsFor cX0_fewestDropsFor 5 (some .int), Cond.methodLink RX0 81 yX0_mostDrops, Cond.instanceMethod yX0_mostDrops, Cond.selects RX0 yX0_mostDrops yX0_mostDrops, Cond.code yX0_mostDrops cX0_mostDrops 2 (some .int), Cond.methodLink RX2 202 yX2_inTuneIfTuned, Cond.instanceMethod yX2_inTuneIfTuned, Cond.selects RX2 yX2_inTuneIfTuned yX2_inTuneIfTuned]
def wsX2_advise_r5 : List Cond := [Cond.code yX2_inTuneIfTuned cX2_inTuneIfTuned 4 (some .int), Cond.instanceMethod yX0_tuneTo, Cond.selects RX0 yX0_tuneTo yX0_tuneTo, Cond.code yX0_tuneTo cX0_tuneTo 3 none, Cond.methodLink RX0 87 yX0_canBeTuned]
def wsX2_advise : List Cond := .code yX2_advise cX2_advise 7 (some .int) :: ((wsX2_advise_r1 ++ (wsX2_advise_r2 ++ (wsX2_advise_r3 ++ (wsX2_advise_r4 ++ wsX2_advise_r5)))) ++ wsX20 ++ wsX00 ++ wsX10 ++ (vx_atS RX2 36 "java/lang/IllegalArgumentException" ["java/lang/RuntimeException", "java/lang/Exception"]).filter goodWord)
def wsX2_missedIfPumped_r1 : List Cond := [Cond.fieldLink RX2 25 "GlassHarp" "trial" "LGlassHarp$Orchestra;", Cond.fieldLink RX2 21 "GlassHarp" "now" "LGlassHarp$Orchestra;", Cond.instanceMethod yX0_takeOver, Cond.initialized RX0, Cond.selects RX0 yX0_takeOver yX0_takeOver, Cond.code yX0_takeOver cX0_takeOver 3 none, Cond.fieldLink RX0 40 "GlassHarp$Orchestra" "glasses" "I", Cond.fieldLink RX0 9 "GlassHarp$Orchestra" "rows" "[I", Cond.fieldLink RX0 15 "GlassHarp$Orchestra" "sizes" "[I", Cond.fieldLink RX0 18 "GlassHarp$Orchestra" "drops" "[I", Cond.fieldLink RX0 21 "GlassHarp$Orchestra" "cracked" "[Z", Cond.fieldLink RX0 25 "GlassHarp$Orchestra" "rings" "[I", Cond.fieldLink RX0 28 "GlassHarp$Orchestra" "plays" "[I", Cond.fieldLink RX0 34 "GlassHarp$Orchestra" "air" "[I", Cond.fieldLink RX0 37 "GlassHarp$Orchestra" "pumps" "[I", Cond.fieldLink RX0 44 "GlassHarp$Orchestra" "beat" "I", Cond.fieldLink RX0 47 "GlassHarp$Orchestra" "played" "I", Cond.fieldLink RX0 50 "GlassHarp$Orchestra" "inTune" "I", Cond.fieldLink RX0 53 "GlassHarp$Orchestra" "missed" "I", Cond.instanceMethod yX0_setPump, Cond.selects RX0 yX0_setPump yX0_setPump, Cond.code yX0_setPump cX0_setPump 3 none, Cond.static yX2_isWithin, Cond.initialized RX2]
def wsX2_missedIfPumped_r2 : List Cond := [Cond.code yX2_isWithin cX2_isWithin 3 (some .boolean), Cond.instanceMethod yX0_letGoBy, Cond.selects RX0 yX0_letGoBy yX0_letGoBy, Cond.code yX0_letGoBy cX0_letGoBy 3 none, Cond.methodLink RX0 103 yX0_fillBellows, Cond.instanceMethod yX0_fillBellows, Cond.selects RX0 yX0_fillBellows yX0_fillBellows, Cond.code yX0_fillBellows cX0_fillBellows 2 none, Cond.methodLink RX0 112 Lib.Math.min.name, Cond.static Lib.Math.min.name, Cond.initialized "java/lang/Math", Cond.code Lib.Math.min.name Lib.Math.min.code 2 (some .int), Cond.methodLink RX0 106 yX0_playNotes, Cond.instanceMethod yX0_playNotes, Cond.selects RX0 yX0_playNotes yX0_playNotes, Cond.code yX0_playNotes cX0_playNotes 4 none, Cond.fieldLink RX0 31 "GlassHarp$Orchestra" "busy" "[Z", Cond.fieldLink RX0 56 "GlassHarp$Orchestra" "score" "LGlassHarp$Score;", Cond.instanceMethod yX1_beatAt, Cond.initialized RX1, Cond.selects RX1 yX1_beatAt yX1_beatAt, Cond.code yX1_beatAt cX1_beatAt 2 (some .int), Cond.fieldLink RX1 25 "GlassHarp$Score" "length" "I", Cond.methodLink RX0 132 yX0_playerFor]
def wsX2_missedIfPumped_r3 : List Cond := [Cond.instanceMethod yX0_playerFor, Cond.selects RX0 yX0_playerFor yX0_playerFor, Cond.code yX0_playerFor cX0_playerFor 7 (some .int), Cond.methodLink RX0 139 yX0_hasAir, Cond.instanceMethod yX0_hasAir, Cond.selects RX0 yX0_hasAir yX0_hasAir, Cond.code yX0_hasAir cX0_hasAir 3 (some .boolean), Cond.methodLink RX0 91 yX0_toneOf, Cond.instanceMethod yX0_toneOf, Cond.selects RX0 yX0_toneOf yX0_toneOf, Cond.code yX0_toneOf cX0_toneOf 4 (some .int), Cond.methodLink RX0 75 Lib.Math.max.name, Cond.static Lib.Math.max.name, Cond.code Lib.Math.max.name Lib.Math.max.code 2 (some .int), Cond.methodLink RX0 64 yX0_hasGlass, Cond.instanceMethod yX0_hasGlass, Cond.selects RX0 yX0_hasGlass yX0_hasGlass, Cond.code yX0_hasGlass cX0_hasGlass 2 (some .boolean), Cond.methodLink RX0 68 yX0_dropsPerTone, Cond.static yX0_dropsPerTone, Cond.code yX0_dropsPerTone cX0_dropsPerTone 1 (some .int), Cond.methodLink RX0 72 yX0_emptyTone, Cond.static yX0_emptyTone, Cond.code yX0_emptyTone cX0_emptyTone 1 (some .int)]
def wsX2_missedIfPumped_r4 : List Cond := [Cond.static yX2_distance, Cond.code yX2_distance cX2_distance 2 (some .int), Cond.methodLink RX0 135 yX0_rub, Cond.instanceMethod yX0_rub, Cond.selects RX0 yX0_rub yX0_rub, Cond.code yX0_rub cX0_rub 5 none, Cond.methodLink RX0 109 yX0_fadeAndDry, Cond.instanceMethod yX0_fadeAndDry, Cond.selects RX0 yX0_fadeAndDry yX0_fadeAndDry, Cond.code yX0_fadeAndDry cX0_fadeAndDry 3 none]
def wsX2_missedIfPumped : List Cond := .code yX2_missedIfPumped cX2_missedIfPumped 4 (some .int) :: ((wsX2_missedIfPumped_r1 ++ (wsX2_missedIfPumped_r2 ++ (wsX2_missedIfPumped_r3 ++ wsX2_missedIfPumped_r4))) ++ wsX20 ++ wsX00 ++ wsX10)
def wsX2_wants_r1 : List Cond := [Cond.classLink RX2 54 "java/lang/IndexOutOfBoundsException", Cond.initialized "java/lang/IndexOutOfBoundsException", Cond.classLink RX2 32 "java/lang/IllegalArgumentException", Cond.initialized "java/lang/IllegalArgumentException", Cond.methodLink RX2 28 yX2_isWithin, Cond.static yX2_isWithin, Cond.initialized RX2, Cond.code yX2_isWithin cX2_isWithin 3 (some .boolean), Cond.methodLink RX2 205 yX2_missedIfPumped, Cond.instanceMethod yX2_missedIfPumped, Cond.selects RX2 yX2_missedIfPumped yX2_missedIfPumped, Cond.code yX2_missedIfPumped cX2_missedIfPumped 4 (some .int), Cond.fieldLink RX2 25 "GlassHarp" "trial" "LGlassHarp$Orchestra;", Cond.fieldLink RX2 21 "GlassHarp" "now" "LGlassHarp$Orchestra;", Cond.instanceMethod yX0_takeOver, Cond.initialized RX0, Cond.selects RX0 yX0_takeOver yX0_takeOver, Cond.code yX0_takeOver cX0_takeOver 3 none, Cond.fieldLink RX0 40 "GlassHarp$Orchestra" "glasses" "I", Cond.fieldLink RX0 9 "GlassHarp$Orchestra" "rows" "[I", Cond.fieldLink RX0 15 "GlassHarp$Orchestra" "sizes" "[I", Cond.fieldLink RX0 18 "GlassHarp$Orchestra" "drops" "[I", Cond.fieldLink RX0 21 "GlassHarp$Orchestra" "cracked" "[Z", Cond.fieldLink RX0 25 "GlassHarp$Orchestra" "rings" "[I"]
def wsX2_wants_r2 : List Cond := [Cond.fieldLink RX0 28 "GlassHarp$Orchestra" "plays" "[I", Cond.fieldLink RX0 34 "GlassHarp$Orchestra" "air" "[I", Cond.fieldLink RX0 37 "GlassHarp$Orchestra" "pumps" "[I", Cond.fieldLink RX0 44 "GlassHarp$Orchestra" "beat" "I", Cond.fieldLink RX0 47 "GlassHarp$Orchestra" "played" "I", Cond.fieldLink RX0 50 "GlassHarp$Orchestra" "inTune" "I", Cond.fieldLink RX0 53 "GlassHarp$Orchestra" "missed" "I", Cond.instanceMethod yX0_setPump, Cond.selects RX0 yX0_setPump yX0_setPump, Cond.code yX0_setPump cX0_setPump 3 none, Cond.instanceMethod yX0_letGoBy, Cond.selects RX0 yX0_letGoBy yX0_letGoBy, Cond.code yX0_letGoBy cX0_letGoBy 3 none, Cond.methodLink RX0 103 yX0_fillBellows, Cond.instanceMethod yX0_fillBellows, Cond.selects RX0 yX0_fillBellows yX0_fillBellows, Cond.code yX0_fillBellows cX0_fillBellows 2 none, Cond.methodLink RX0 112 Lib.Math.min.name, Cond.static Lib.Math.min.name, Cond.initialized "java/lang/Math", Cond.code Lib.Math.min.name Lib.Math.min.code 2 (some .int), Cond.methodLink RX0 106 yX0_playNotes, Cond.instanceMethod yX0_playNotes, Cond.selects RX0 yX0_playNotes yX0_playNotes]
def wsX2_wants_r3 : List Cond := [Cond.code yX0_playNotes cX0_playNotes 4 none, Cond.fieldLink RX0 31 "GlassHarp$Orchestra" "busy" "[Z", Cond.fieldLink RX0 56 "GlassHarp$Orchestra" "score" "LGlassHarp$Score;", Cond.instanceMethod yX1_beatAt, Cond.initialized RX1, Cond.selects RX1 yX1_beatAt yX1_beatAt, Cond.code yX1_beatAt cX1_beatAt 2 (some .int), Cond.fieldLink RX1 25 "GlassHarp$Score" "length" "I", Cond.methodLink RX0 132 yX0_playerFor, Cond.instanceMethod yX0_playerFor, Cond.selects RX0 yX0_playerFor yX0_playerFor, Cond.code yX0_playerFor cX0_playerFor 7 (some .int), Cond.methodLink RX0 139 yX0_hasAir, Cond.instanceMethod yX0_hasAir, Cond.selects RX0 yX0_hasAir yX0_hasAir, Cond.code yX0_hasAir cX0_hasAir 3 (some .boolean), Cond.methodLink RX0 91 yX0_toneOf, Cond.instanceMethod yX0_toneOf, Cond.selects RX0 yX0_toneOf yX0_toneOf, Cond.code yX0_toneOf cX0_toneOf 4 (some .int), Cond.methodLink RX0 75 Lib.Math.max.name, Cond.static Lib.Math.max.name, Cond.code Lib.Math.max.name Lib.Math.max.code 2 (some .int), Cond.methodLink RX0 64 yX0_hasGlass]
def wsX2_wants_r4 : List Cond := [Cond.instanceMethod yX0_hasGlass, Cond.selects RX0 yX0_hasGlass yX0_hasGlass, Cond.code yX0_hasGlass cX0_hasGlass 2 (some .boolean), Cond.methodLink RX0 68 yX0_dropsPerTone, Cond.static yX0_dropsPerTone, Cond.code yX0_dropsPerTone cX0_dropsPerTone 1 (some .int), Cond.methodLink RX0 72 yX0_emptyTone, Cond.static yX0_emptyTone, Cond.code yX0_emptyTone cX0_emptyTone 1 (some .int), Cond.static yX2_distance, Cond.code yX2_distance cX2_distance 2 (some .int), Cond.methodLink RX0 135 yX0_rub, Cond.instanceMethod yX0_rub, Cond.selects RX0 yX0_rub yX0_rub, Cond.code yX0_rub cX0_rub 5 none, Cond.methodLink RX0 109 yX0_fadeAndDry, Cond.instanceMethod yX0_fadeAndDry, Cond.selects RX0 yX0_fadeAndDry yX0_fadeAndDry, Cond.code yX0_fadeAndDry cX0_fadeAndDry 3 none]
def wsX2_wants : List Cond := .code yX2_wants cX2_wants 5 (some .int) :: ((wsX2_wants_r1 ++ (wsX2_wants_r2 ++ (wsX2_wants_r3 ++ wsX2_wants_r4))) ++ wsX20 ++ wsX00 ++ wsX10 ++ (vx_atS RX2 58 "java/lang/IndexOutOfBoundsException" ["java/lang/RuntimeException", "java/lang/Exception"]).filter goodWord ++ (vx_atS RX2 36 "java/lang/IllegalArgumentException" ["java/lang/RuntimeException", "java/lang/Exception"]).filter goodWord)
def wsX2_mean : List Cond := .code yX2_mean cX2_mean 2 (some .double) :: ([.fieldLink RX2 21 "GlassHarp" "now" "LGlassHarp$Orchestra;"] ++ wsX20 ++ wsX00)
def wsX2_digested : List Cond := .code yX2_digested cX2_digested 3 (some .long) :: ([.constantLong RX2 233 (31)])
def wsX2_digest_r1 : List Cond := [Cond.constantLong RX2 208 (829), Cond.fieldLink RX2 10 "GlassHarp" "score" "LGlassHarp$Score;", Cond.fieldLink RX2 21 "GlassHarp" "now" "LGlassHarp$Orchestra;", Cond.methodLink RX2 210 yX2_count, Cond.instanceMethod yX2_count, Cond.selects RX2 yX2_count yX2_count, Cond.initialized RX2, Cond.code yX2_count cX2_count 2 (some .int), Cond.classLink RX2 54 "java/lang/IndexOutOfBoundsException", Cond.initialized "java/lang/IndexOutOfBoundsException", Cond.methodLink RX2 28 yX2_isWithin, Cond.static yX2_isWithin, Cond.code yX2_isWithin cX2_isWithin 3 (some .boolean), Cond.instanceMethod yX0_crackedGlasses, Cond.initialized RX0, Cond.selects RX0 yX0_crackedGlasses yX0_crackedGlasses, Cond.code yX0_crackedGlasses cX0_crackedGlasses 3 (some .int), Cond.fieldLink RX0 40 "GlassHarp$Orchestra" "glasses" "I", Cond.fieldLink RX0 21 "GlassHarp$Orchestra" "cracked" "[Z", Cond.instanceMethod yX0_allAir, Cond.selects RX0 yX0_allAir yX0_allAir, Cond.code yX0_allAir cX0_allAir 3 (some .int), Cond.fieldLink RX0 34 "GlassHarp$Orchestra" "air" "[I", Cond.instanceMethod yX0_pairsBeating]
def wsX2_digest_r2 : List Cond := [Cond.selects RX0 yX0_pairsBeating yX0_pairsBeating, Cond.code yX0_pairsBeating cX0_pairsBeating 3 (some .int), Cond.methodLink RX0 100 yX0_glassesBeatingAgainst, Cond.instanceMethod yX0_glassesBeatingAgainst, Cond.selects RX0 yX0_glassesBeatingAgainst yX0_glassesBeatingAgainst, Cond.code yX0_glassesBeatingAgainst cX0_glassesBeatingAgainst 4 (some .int), Cond.methodLink RX0 97 yX0_beatAgainst, Cond.instanceMethod yX0_beatAgainst, Cond.selects RX0 yX0_beatAgainst yX0_beatAgainst, Cond.code yX0_beatAgainst cX0_beatAgainst 3 (some .boolean), Cond.fieldLink RX0 25 "GlassHarp$Orchestra" "rings" "[I", Cond.methodLink RX0 64 yX0_hasGlass, Cond.instanceMethod yX0_hasGlass, Cond.selects RX0 yX0_hasGlass yX0_hasGlass, Cond.code yX0_hasGlass cX0_hasGlass 2 (some .boolean), Cond.methodLink RX0 91 yX0_toneOf, Cond.instanceMethod yX0_toneOf, Cond.selects RX0 yX0_toneOf yX0_toneOf, Cond.code yX0_toneOf cX0_toneOf 4 (some .int), Cond.fieldLink RX0 15 "GlassHarp$Orchestra" "sizes" "[I", Cond.fieldLink RX0 18 "GlassHarp$Orchestra" "drops" "[I", Cond.methodLink RX0 75 Lib.Math.max.name, Cond.static Lib.Math.max.name, Cond.initialized "java/lang/Math"]
def wsX2_digest_r3 : List Cond := [Cond.code Lib.Math.max.name Lib.Math.max.code 2 (some .int), Cond.methodLink RX0 68 yX0_dropsPerTone, Cond.static yX0_dropsPerTone, Cond.code yX0_dropsPerTone cX0_dropsPerTone 1 (some .int), Cond.methodLink RX0 72 yX0_emptyTone, Cond.static yX0_emptyTone, Cond.code yX0_emptyTone cX0_emptyTone 1 (some .int), Cond.static yX2_distance, Cond.code yX2_distance cX2_distance 2 (some .int), Cond.methodLink RX2 213 yX2_digested, Cond.static yX2_digested, Cond.code yX2_digested cX2_digested 3 (some .long), Cond.constantLong RX2 233 (31), Cond.methodLink RX2 217 yX2_glass, Cond.instanceMethod yX2_glass, Cond.selects RX2 yX2_glass yX2_glass, Cond.code yX2_glass cX2_glass 3 (some .int), Cond.methodLink RX2 220 yX2_row, Cond.instanceMethod yX2_row, Cond.selects RX2 yX2_row yX2_row, Cond.code yX2_row cX2_row 3 (some .int), Cond.instanceMethod yX0_glassesInRow, Cond.selects RX0 yX0_glassesInRow yX0_glassesInRow, Cond.code yX0_glassesInRow cX0_glassesInRow 4 (some .int)]
def wsX2_digest_r4 : List Cond := [Cond.fieldLink RX0 9 "GlassHarp$Orchestra" "rows" "[I", Cond.methodLink RX2 223 yX2_written, Cond.instanceMethod yX2_written, Cond.selects RX2 yX2_written yX2_written, Cond.code yX2_written cX2_written 3 (some .int), Cond.instanceMethod yX1_hasNote, Cond.initialized RX1, Cond.selects RX1 yX1_hasNote yX1_hasNote, Cond.code yX1_hasNote cX1_hasNote 2 (some .boolean), Cond.fieldLink RX1 21 "GlassHarp$Score" "notes" "I"]
def wsX2_digest : List Cond := .code yX2_digest cX2_digest 5 (some .long) :: ((wsX2_digest_r1 ++ (wsX2_digest_r2 ++ (wsX2_digest_r3 ++ wsX2_digest_r4))) ++ wsX20 ++ wsX10 ++ wsX00 ++ (vx_atS RX2 58 "java/lang/IndexOutOfBoundsException" ["java/lang/RuntimeException", "java/lang/Exception"]).filter goodWord)
def wsX3_init : List Cond := .code yX3_init cX3_init 2 none :: ([.fieldLink RX3 3 "GlassHarpModel$State" "this$0" "LGlassHarpModel;", .methodLink RX3 9 objectInit, .instanceMethod objectInit, .code objectInit ⟨#[0xb1]⟩ 1 none, .arrayClass .int, .fieldLink RX3 15 "GlassHarpModel$State" "air" "[I", .fieldLink RX3 19 "GlassHarpModel$State" "pump" "[I", .fieldLink RX3 22 "GlassHarpModel$State" "drops" "[I", .fieldLink RX3 25 "GlassHarpModel$State" "broken" "[I", .fieldLink RX3 28 "GlassHarpModel$State" "ring" "[I", .fieldLink RX3 31 "GlassHarpModel$State" "times" "[I"] ++ wsX30)
def wsX3_copy : List Cond := .code yX3_copy cX3_copy 3 none :: ([.methodLink RX3 34 arraycopyName, .native arraycopyName, .static arraycopyName, .initialized "java/lang/System"])
def wsX3_become : List Cond := .code yX3_become cX3_become 2 none :: ([.fieldLink RX3 40 "GlassHarpModel$State" "beat" "I", .fieldLink RX3 44 "GlassHarpModel$State" "played" "I", .fieldLink RX3 47 "GlassHarpModel$State" "tuned" "I", .fieldLink RX3 50 "GlassHarpModel$State" "missed" "I", .fieldLink RX3 15 "GlassHarpModel$State" "air" "[I", .fieldLink RX3 19 "GlassHarpModel$State" "pump" "[I", .fieldLink RX3 22 "GlassHarpModel$State" "drops" "[I", .fieldLink RX3 25 "GlassHarpModel$State" "broken" "[I", .fieldLink RX3 28 "GlassHarpModel$State" "ring" "[I", .fieldLink RX3 31 "GlassHarpModel$State" "times" "[I", .methodLink RX3 53 yX3_copy, .instanceMethod yX3_copy, .selects RX3 yX3_copy yX3_copy, .initialized RX3, .code yX3_copy cX3_copy 3 none, .methodLink RX3 34 arraycopyName, .native arraycopyName, .static arraycopyName, .initialized "java/lang/System"] ++ wsX30)
def wsX3_tone : List Cond := .code yX3_tone cX3_tone 2 (some .int) :: ([.fieldLink RX3 3 "GlassHarpModel$State" "this$0" "LGlassHarpModel;", .fieldLink RX3 22 "GlassHarpModel$State" "drops" "[I", .methodLink RX3 60 Lib.Math.max.name, .static Lib.Math.max.name, .initialized "java/lang/Math", .code Lib.Math.max.name Lib.Math.max.code 2 (some .int)] ++ wsX30 ++ wsX40)
def wsX3_off : List Cond := .code yX3_off cX3_off 3 (some .int) :: ([.methodLink RX3 70 Lib.Math.abs.name, .static Lib.Math.abs.name, .initialized "java/lang/Math", .code Lib.Math.abs.name Lib.Math.abs.code 1 (some .int), .methodLink RX3 66 yX3_tone, .instanceMethod yX3_tone, .selects RX3 yX3_tone yX3_tone, .initialized RX3, .code yX3_tone cX3_tone 2 (some .int), .fieldLink RX3 3 "GlassHarpModel$State" "this$0" "LGlassHarpModel;", .fieldLink RX3 22 "GlassHarpModel$State" "drops" "[I", .methodLink RX3 60 Lib.Math.max.name, .static Lib.Math.max.name, .code Lib.Math.max.name Lib.Math.max.code 2 (some .int)] ++ wsX30 ++ wsX40)
def wsX3_come_r1 : List Cond := [Cond.fieldLink RX3 3 "GlassHarpModel$State" "this$0" "LGlassHarpModel;", Cond.fieldLink RX3 25 "GlassHarpModel$State" "broken" "[I", Cond.fieldLink RX3 76 "GlassHarpModel$State" "busy" "I", Cond.fieldLink RX3 15 "GlassHarpModel$State" "air" "[I", Cond.fieldLink RX3 50 "GlassHarpModel$State" "missed" "I", Cond.fieldLink RX3 44 "GlassHarpModel$State" "played" "I", Cond.fieldLink RX3 47 "GlassHarpModel$State" "tuned" "I", Cond.fieldLink RX3 31 "GlassHarpModel$State" "times" "[I", Cond.fieldLink RX3 28 "GlassHarpModel$State" "ring" "[I", Cond.fieldLink RX3 22 "GlassHarpModel$State" "drops" "[I", Cond.methodLink RX3 60 Lib.Math.max.name, Cond.static Lib.Math.max.name, Cond.initialized "java/lang/Math", Cond.code Lib.Math.max.name Lib.Math.max.code 2 (some .int), Cond.methodLink RX3 82 yX3_off, Cond.instanceMethod yX3_off, Cond.selects RX3 yX3_off yX3_off, Cond.initialized RX3, Cond.code yX3_off cX3_off 3 (some .int), Cond.methodLink RX3 70 Lib.Math.abs.name, Cond.static Lib.Math.abs.name, Cond.code Lib.Math.abs.name Lib.Math.abs.code 1 (some .int), Cond.methodLink RX3 66 yX3_tone, Cond.instanceMethod yX3_tone]
def wsX3_come_r2 : List Cond := [Cond.selects RX3 yX3_tone yX3_tone, Cond.code yX3_tone cX3_tone 2 (some .int)]
def wsX3_come : List Cond := .code yX3_come cX3_come 5 none :: ((wsX3_come_r1 ++ wsX3_come_r2) ++ wsX30 ++ wsX40)
def wsX3_pass_r1 : List Cond := [Cond.fieldLink RX3 15 "GlassHarpModel$State" "air" "[I", Cond.fieldLink RX3 19 "GlassHarpModel$State" "pump" "[I", Cond.methodLink RX3 85 Lib.Math.min.name, Cond.static Lib.Math.min.name, Cond.initialized "java/lang/Math", Cond.code Lib.Math.min.name Lib.Math.min.code 2 (some .int), Cond.fieldLink RX3 76 "GlassHarpModel$State" "busy" "I", Cond.fieldLink RX3 3 "GlassHarpModel$State" "this$0" "LGlassHarpModel;", Cond.fieldLink RX3 40 "GlassHarpModel$State" "beat" "I", Cond.fieldLink RX3 28 "GlassHarpModel$State" "ring" "[I", Cond.methodLink RX3 60 Lib.Math.max.name, Cond.static Lib.Math.max.name, Cond.code Lib.Math.max.name Lib.Math.max.code 2 (some .int), Cond.fieldLink RX3 22 "GlassHarpModel$State" "drops" "[I", Cond.methodLink RX3 97 yX3_come, Cond.instanceMethod yX3_come, Cond.selects RX3 yX3_come yX3_come, Cond.initialized RX3, Cond.code yX3_come cX3_come 5 none, Cond.fieldLink RX3 25 "GlassHarpModel$State" "broken" "[I", Cond.fieldLink RX3 50 "GlassHarpModel$State" "missed" "I", Cond.fieldLink RX3 44 "GlassHarpModel$State" "played" "I", Cond.fieldLink RX3 47 "GlassHarpModel$State" "tuned" "I", Cond.fieldLink RX3 31 "GlassHarpModel$State" "times" "[I"]
def wsX3_pass_r2 : List Cond := [Cond.methodLink RX3 82 yX3_off, Cond.instanceMethod yX3_off, Cond.selects RX3 yX3_off yX3_off, Cond.code yX3_off cX3_off 3 (some .int), Cond.methodLink RX3 70 Lib.Math.abs.name, Cond.static Lib.Math.abs.name, Cond.code Lib.Math.abs.name Lib.Math.abs.code 1 (some .int), Cond.methodLink RX3 66 yX3_tone, Cond.instanceMethod yX3_tone, Cond.selects RX3 yX3_tone yX3_tone, Cond.code yX3_tone cX3_tone 2 (some .int)]
def wsX3_pass : List Cond := .code yX3_pass cX3_pass 2 none :: ((wsX3_pass_r1 ++ wsX3_pass_r2) ++ wsX30 ++ wsX40)
def wsX3_cracked : List Cond := .code yX3_cracked cX3_cracked 3 (some .int) :: ([.fieldLink RX3 3 "GlassHarpModel$State" "this$0" "LGlassHarpModel;", .fieldLink RX3 25 "GlassHarpModel$State" "broken" "[I"] ++ wsX30 ++ wsX40)
def wsX3_isAgainst : List Cond := .code yX3_isAgainst cX3_isAgainst 4 (some .boolean) :: ([.methodLink RX3 70 Lib.Math.abs.name, .static Lib.Math.abs.name, .initialized "java/lang/Math", .code Lib.Math.abs.name Lib.Math.abs.code 1 (some .int), .fieldLink RX3 28 "GlassHarpModel$State" "ring" "[I", .methodLink RX3 66 yX3_tone, .instanceMethod yX3_tone, .selects RX3 yX3_tone yX3_tone, .initialized RX3, .code yX3_tone cX3_tone 2 (some .int), .fieldLink RX3 3 "GlassHarpModel$State" "this$0" "LGlassHarpModel;", .fieldLink RX3 22 "GlassHarpModel$State" "drops" "[I", .methodLink RX3 60 Lib.Math.max.name, .static Lib.Math.max.name, .code Lib.Math.max.name Lib.Math.max.code 2 (some .int)] ++ wsX30 ++ wsX40)
def wsX4_init : List Cond := .code yX4_init cX4_init 1 none :: ([.methodLink RX4 1 objectInit, .instanceMethod objectInit, .code objectInit ⟨#[0xb1]⟩ 1 none, .fieldLink RX4 7 "GlassHarpModel" "length" "I", .arrayClass .int, .fieldLink RX4 13 "GlassHarpModel" "score" "[I", .fieldLink RX4 17 "GlassHarpModel" "row" "[I", .fieldLink RX4 20 "GlassHarpModel" "size" "[I", .classLink RX4 23 RX3, .instantiable RX3 12, .initialized RX3, .fieldLink RX4 28 "GlassHarpModel" "s" "LGlassHarpModel$State;", .fieldLink RX4 32 "GlassHarpModel" "ahead" "LGlassHarpModel$State;", .instanceMethod yX3_init, .code yX3_init cX3_init 2 none, .fieldLink RX3 3 "GlassHarpModel$State" "this$0" "LGlassHarpModel;", .methodLink RX3 9 objectInit, .fieldLink RX3 15 "GlassHarpModel$State" "air" "[I", .fieldLink RX3 19 "GlassHarpModel$State" "pump" "[I", .fieldLink RX3 22 "GlassHarpModel$State" "drops" "[I", .fieldLink RX3 25 "GlassHarpModel$State" "broken" "[I", .fieldLink RX3 28 "GlassHarpModel$State" "ring" "[I", .fieldLink RX3 31 "GlassHarpModel$State" "times" "[I"] ++ wsX40 ++ wsX30)
def wsX4_thrown : List Cond := .code yX4_thrown cX4_thrown 1 (some .int) :: ([.fieldLink RX4 35 "GlassHarpModel" "thrown" "I"] ++ wsX40)
def wsX4_no : List Cond := .code yX4_no cX4_no 2 (some .int) :: ([.fieldLink RX4 35 "GlassHarpModel" "thrown" "I"] ++ wsX40)
def wsX4_isIn : List Cond := .code yX4_isIn cX4_isIn 3 (some .boolean) :: ([])
def wsX4_isGlass : List Cond := .code yX4_isGlass cX4_isGlass 2 (some .boolean) :: ([.fieldLink RX4 38 "GlassHarpModel" "glasses" "I", .methodLink RX4 41 yX4_isIn, .static yX4_isIn, .initialized RX4, .code yX4_isIn cX4_isIn 3 (some .boolean)] ++ wsX40)
def wsX4_isRow : List Cond := .code yX4_isRow cX4_isRow 1 (some .boolean) :: ([.methodLink RX4 41 yX4_isIn, .static yX4_isIn, .initialized RX4, .code yX4_isIn cX4_isIn 3 (some .boolean)])
def wsX4_set : List Cond := .code yX4_set cX4_set 4 (some .int) :: ([.fieldLink RX4 35 "GlassHarpModel" "thrown" "I", .fieldLink RX4 38 "GlassHarpModel" "glasses" "I", .fieldLink RX4 17 "GlassHarpModel" "row" "[I", .fieldLink RX4 20 "GlassHarpModel" "size" "[I", .fieldLink RX4 28 "GlassHarpModel" "s" "LGlassHarpModel$State;", .methodLink RX4 45 yX4_isRow, .static yX4_isRow, .initialized RX4, .code yX4_isRow cX4_isRow 1 (some .boolean), .methodLink RX4 41 yX4_isIn, .static yX4_isIn, .code yX4_isIn cX4_isIn 3 (some .boolean), .methodLink RX4 49 yX4_no, .instanceMethod yX4_no, .selects RX4 yX4_no yX4_no, .code yX4_no cX4_no 2 (some .int)] ++ wsX40 ++ wsX30)
def wsX4_drop_r1 : List Cond := [Cond.fieldLink RX4 35 "GlassHarpModel" "thrown" "I", Cond.fieldLink RX4 28 "GlassHarpModel" "s" "LGlassHarpModel$State;", Cond.fieldLink RX4 20 "GlassHarpModel" "size" "[I", Cond.methodLink RX4 56 yX4_isGlass, Cond.instanceMethod yX4_isGlass, Cond.selects RX4 yX4_isGlass yX4_isGlass, Cond.initialized RX4, Cond.code yX4_isGlass cX4_isGlass 2 (some .boolean), Cond.fieldLink RX4 38 "GlassHarpModel" "glasses" "I", Cond.methodLink RX4 41 yX4_isIn, Cond.static yX4_isIn, Cond.code yX4_isIn cX4_isIn 3 (some .boolean), Cond.methodLink RX4 49 yX4_no, Cond.instanceMethod yX4_no, Cond.selects RX4 yX4_no yX4_no, Cond.code yX4_no cX4_no 2 (some .int), Cond.methodLink RX4 62 yX3_tone, Cond.instanceMethod yX3_tone, Cond.selects RX3 yX3_tone yX3_tone, Cond.initialized RX3, Cond.code yX3_tone cX3_tone 2 (some .int), Cond.fieldLink RX3 3 "GlassHarpModel$State" "this$0" "LGlassHarpModel;", Cond.fieldLink RX3 22 "GlassHarpModel$State" "drops" "[I", Cond.methodLink RX3 60 Lib.Math.max.name]
def wsX4_drop_r2 : List Cond := [Cond.static Lib.Math.max.name, Cond.initialized "java/lang/Math", Cond.code Lib.Math.max.name Lib.Math.max.code 2 (some .int)]
def wsX4_drop : List Cond := .code yX4_drop cX4_drop 4 (some .int) :: ((wsX4_drop_r1 ++ wsX4_drop_r2) ++ wsX40 ++ wsX30)
def wsX4_pump : List Cond := .code yX4_pump cX4_pump 4 (some .int) :: ([.fieldLink RX4 35 "GlassHarpModel" "thrown" "I", .fieldLink RX4 28 "GlassHarpModel" "s" "LGlassHarpModel$State;", .methodLink RX4 45 yX4_isRow, .static yX4_isRow, .initialized RX4, .code yX4_isRow cX4_isRow 1 (some .boolean), .methodLink RX4 41 yX4_isIn, .static yX4_isIn, .code yX4_isIn cX4_isIn 3 (some .boolean), .methodLink RX4 49 yX4_no, .instanceMethod yX4_no, .selects RX4 yX4_no yX4_no, .code yX4_no cX4_no 2 (some .int)] ++ wsX40 ++ wsX30)
def wsX4_against : List Cond := .code yX4_against cX4_against 4 (some .int) :: ([.fieldLink RX4 38 "GlassHarpModel" "glasses" "I", .fieldLink RX4 28 "GlassHarpModel" "s" "LGlassHarpModel$State;", .methodLink RX4 68 yX3_isAgainst, .instanceMethod yX3_isAgainst, .selects RX3 yX3_isAgainst yX3_isAgainst, .initialized RX3, .code yX3_isAgainst cX3_isAgainst 4 (some .boolean), .methodLink RX3 70 Lib.Math.abs.name, .static Lib.Math.abs.name, .initialized "java/lang/Math", .code Lib.Math.abs.name Lib.Math.abs.code 1 (some .int), .fieldLink RX3 28 "GlassHarpModel$State" "ring" "[I", .methodLink RX3 66 yX3_tone, .instanceMethod yX3_tone, .selects RX3 yX3_tone yX3_tone, .code yX3_tone cX3_tone 2 (some .int), .fieldLink RX3 3 "GlassHarpModel$State" "this$0" "LGlassHarpModel;", .fieldLink RX3 22 "GlassHarpModel$State" "drops" "[I", .methodLink RX3 60 Lib.Math.max.name, .static Lib.Math.max.name, .code Lib.Math.max.name Lib.Math.max.code 2 (some .int)] ++ wsX40 ++ wsX30)
def wsX4_glassTold_r1 : List Cond := [Cond.arrayClass .int, Cond.fieldLink RX4 17 "GlassHarpModel" "row" "[I", Cond.fieldLink RX4 20 "GlassHarpModel" "size" "[I", Cond.fieldLink RX4 28 "GlassHarpModel" "s" "LGlassHarpModel$State;", Cond.methodLink RX4 62 yX3_tone, Cond.instanceMethod yX3_tone, Cond.selects RX3 yX3_tone yX3_tone, Cond.initialized RX3, Cond.code yX3_tone cX3_tone 2 (some .int), Cond.fieldLink RX3 3 "GlassHarpModel$State" "this$0" "LGlassHarpModel;", Cond.fieldLink RX3 22 "GlassHarpModel$State" "drops" "[I", Cond.methodLink RX3 60 Lib.Math.max.name, Cond.static Lib.Math.max.name, Cond.initialized "java/lang/Math", Cond.code Lib.Math.max.name Lib.Math.max.code 2 (some .int), Cond.methodLink RX4 78 yX4_against, Cond.instanceMethod yX4_against, Cond.selects RX4 yX4_against yX4_against, Cond.initialized RX4, Cond.code yX4_against cX4_against 4 (some .int), Cond.fieldLink RX4 38 "GlassHarpModel" "glasses" "I", Cond.methodLink RX4 68 yX3_isAgainst, Cond.instanceMethod yX3_isAgainst, Cond.selects RX3 yX3_isAgainst yX3_isAgainst]
def wsX4_glassTold_r2 : List Cond := [Cond.code yX3_isAgainst cX3_isAgainst 4 (some .boolean), Cond.methodLink RX3 70 Lib.Math.abs.name, Cond.static Lib.Math.abs.name, Cond.code Lib.Math.abs.name Lib.Math.abs.code 1 (some .int), Cond.fieldLink RX3 28 "GlassHarpModel$State" "ring" "[I", Cond.methodLink RX3 66 yX3_tone]
def wsX4_glassTold : List Cond := .code yX4_glassTold cX4_glassTold 4 (some .int) :: ((wsX4_glassTold_r1 ++ wsX4_glassTold_r2) ++ wsX40 ++ wsX30)
def wsX4_glass_r1 : List Cond := [Cond.fieldLink RX4 35 "GlassHarpModel" "thrown" "I", Cond.methodLink RX4 56 yX4_isGlass, Cond.instanceMethod yX4_isGlass, Cond.selects RX4 yX4_isGlass yX4_isGlass, Cond.initialized RX4, Cond.code yX4_isGlass cX4_isGlass 2 (some .boolean), Cond.fieldLink RX4 38 "GlassHarpModel" "glasses" "I", Cond.methodLink RX4 41 yX4_isIn, Cond.static yX4_isIn, Cond.code yX4_isIn cX4_isIn 3 (some .boolean), Cond.methodLink RX4 81 yX4_glassTold, Cond.instanceMethod yX4_glassTold, Cond.selects RX4 yX4_glassTold yX4_glassTold, Cond.code yX4_glassTold cX4_glassTold 4 (some .int), Cond.arrayClass .int, Cond.fieldLink RX4 17 "GlassHarpModel" "row" "[I", Cond.fieldLink RX4 20 "GlassHarpModel" "size" "[I", Cond.fieldLink RX4 28 "GlassHarpModel" "s" "LGlassHarpModel$State;", Cond.methodLink RX4 62 yX3_tone, Cond.instanceMethod yX3_tone, Cond.selects RX3 yX3_tone yX3_tone, Cond.initialized RX3, Cond.code yX3_tone cX3_tone 2 (some .int), Cond.fieldLink RX3 3 "GlassHarpModel$State" "this$0" "LGlassHarpModel;"]
def wsX4_glass_r2 : List Cond := [Cond.fieldLink RX3 22 "GlassHarpModel$State" "drops" "[I", Cond.methodLink RX3 60 Lib.Math.max.name, Cond.static Lib.Math.max.name, Cond.initialized "java/lang/Math", Cond.code Lib.Math.max.name Lib.Math.max.code 2 (some .int), Cond.methodLink RX4 78 yX4_against, Cond.instanceMethod yX4_against, Cond.selects RX4 yX4_against yX4_against, Cond.code yX4_against cX4_against 4 (some .int), Cond.methodLink RX4 68 yX3_isAgainst, Cond.instanceMethod yX3_isAgainst, Cond.selects RX3 yX3_isAgainst yX3_isAgainst, Cond.code yX3_isAgainst cX3_isAgainst 4 (some .boolean), Cond.methodLink RX3 70 Lib.Math.abs.name, Cond.static Lib.Math.abs.name, Cond.code Lib.Math.abs.name Lib.Math.abs.code 1 (some .int), Cond.fieldLink RX3 28 "GlassHarpModel$State" "ring" "[I", Cond.methodLink RX3 66 yX3_tone, Cond.methodLink RX4 49 yX4_no, Cond.instanceMethod yX4_no, Cond.selects RX4 yX4_no yX4_no, Cond.code yX4_no cX4_no 2 (some .int)]
def wsX4_glass : List Cond := .code yX4_glass cX4_glass 3 (some .int) :: ((wsX4_glass_r1 ++ wsX4_glass_r2) ++ wsX40 ++ wsX30)
def wsX4_rowTold : List Cond := .code yX4_rowTold cX4_rowTold 5 (some .int) :: ([.fieldLink RX4 38 "GlassHarpModel" "glasses" "I", .fieldLink RX4 17 "GlassHarpModel" "row" "[I", .fieldLink RX4 28 "GlassHarpModel" "s" "LGlassHarpModel$State;"] ++ wsX40 ++ wsX30)
def wsX4_row : List Cond := .code yX4_row cX4_row 3 (some .int) :: ([.fieldLink RX4 35 "GlassHarpModel" "thrown" "I", .methodLink RX4 45 yX4_isRow, .static yX4_isRow, .initialized RX4, .code yX4_isRow cX4_isRow 1 (some .boolean), .methodLink RX4 41 yX4_isIn, .static yX4_isIn, .code yX4_isIn cX4_isIn 3 (some .boolean), .methodLink RX4 88 yX4_rowTold, .instanceMethod yX4_rowTold, .selects RX4 yX4_rowTold yX4_rowTold, .code yX4_rowTold cX4_rowTold 5 (some .int), .fieldLink RX4 38 "GlassHarpModel" "glasses" "I", .fieldLink RX4 17 "GlassHarpModel" "row" "[I", .fieldLink RX4 28 "GlassHarpModel" "s" "LGlassHarpModel$State;", .methodLink RX4 49 yX4_no, .instanceMethod yX4_no, .selects RX4 yX4_no yX4_no, .code yX4_no cX4_no 2 (some .int)] ++ wsX40 ++ wsX30)
def wsX4_setLength : List Cond := .code yX4_setLength cX4_setLength 3 (some .int) :: ([.fieldLink RX4 35 "GlassHarpModel" "thrown" "I", .fieldLink RX4 7 "GlassHarpModel" "length" "I", .methodLink RX4 41 yX4_isIn, .static yX4_isIn, .initialized RX4, .code yX4_isIn cX4_isIn 3 (some .boolean), .methodLink RX4 49 yX4_no, .instanceMethod yX4_no, .selects RX4 yX4_no yX4_no, .code yX4_no cX4_no 2 (some .int)] ++ wsX40)
def wsX4_note : List Cond := .code yX4_note cX4_note 5 (some .int) :: ([.fieldLink RX4 35 "GlassHarpModel" "thrown" "I", .fieldLink RX4 91 "GlassHarpModel" "notes" "I", .arrayClass .int, .fieldLink RX4 13 "GlassHarpModel" "score" "[I", .methodLink RX4 94 arraycopyName, .native arraycopyName, .static arraycopyName, .initialized "java/lang/System", .methodLink RX4 41 yX4_isIn, .static yX4_isIn, .initialized RX4, .code yX4_isIn cX4_isIn 3 (some .boolean), .methodLink RX4 49 yX4_no, .instanceMethod yX4_no, .selects RX4 yX4_no yX4_no, .code yX4_no cX4_no 2 (some .int)] ++ wsX40)
def wsX4_strike : List Cond := .code yX4_strike cX4_strike 3 (some .int) :: ([.fieldLink RX4 35 "GlassHarpModel" "thrown" "I", .fieldLink RX4 91 "GlassHarpModel" "notes" "I", .fieldLink RX4 13 "GlassHarpModel" "score" "[I", .methodLink RX4 94 arraycopyName, .native arraycopyName, .static arraycopyName, .initialized "java/lang/System", .methodLink RX4 41 yX4_isIn, .static yX4_isIn, .initialized RX4, .code yX4_isIn cX4_isIn 3 (some .boolean), .methodLink RX4 49 yX4_no, .instanceMethod yX4_no, .selects RX4 yX4_no yX4_no, .code yX4_no cX4_no 2 (some .int)] ++ wsX40)
def wsX4_written : List Cond := .code yX4_written cX4_written 3 (some .int) :: ([.fieldLink RX4 35 "GlassHarpModel" "thrown" "I", .fieldLink RX4 91 "GlassHarpModel" "notes" "I", .fieldLink RX4 13 "GlassHarpModel" "score" "[I", .methodLink RX4 41 yX4_isIn, .static yX4_isIn, .initialized RX4, .code yX4_isIn cX4_isIn 3 (some .boolean), .methodLink RX4 49 yX4_no, .instanceMethod yX4_no, .selects RX4 yX4_no yX4_no, .code yX4_no cX4_no 2 (some .int)] ++ wsX40)
def wsX4_play_r1 : List Cond := [Cond.fieldLink RX4 35 "GlassHarpModel" "thrown" "I", Cond.fieldLink RX4 28 "GlassHarpModel" "s" "LGlassHarpModel$State;", Cond.methodLink RX4 41 yX4_isIn, Cond.static yX4_isIn, Cond.initialized RX4, Cond.code yX4_isIn cX4_isIn 3 (some .boolean), Cond.methodLink RX4 49 yX4_no, Cond.instanceMethod yX4_no, Cond.selects RX4 yX4_no yX4_no, Cond.code yX4_no cX4_no 2 (some .int), Cond.methodLink RX4 103 yX3_pass, Cond.instanceMethod yX3_pass, Cond.selects RX3 yX3_pass yX3_pass, Cond.initialized RX3, Cond.code yX3_pass cX3_pass 2 none, Cond.fieldLink RX3 15 "GlassHarpModel$State" "air" "[I", Cond.fieldLink RX3 19 "GlassHarpModel$State" "pump" "[I", Cond.methodLink RX3 85 Lib.Math.min.name, Cond.static Lib.Math.min.name, Cond.initialized "java/lang/Math", Cond.code Lib.Math.min.name Lib.Math.min.code 2 (some .int), Cond.fieldLink RX3 76 "GlassHarpModel$State" "busy" "I", Cond.fieldLink RX3 3 "GlassHarpModel$State" "this$0" "LGlassHarpModel;", Cond.fieldLink RX3 40 "GlassHarpModel$State" "beat" "I"]
def wsX4_play_r2 : List Cond := [Cond.fieldLink RX3 28 "GlassHarpModel$State" "ring" "[I", Cond.methodLink RX3 60 Lib.Math.max.name, Cond.static Lib.Math.max.name, Cond.code Lib.Math.max.name Lib.Math.max.code 2 (some .int), Cond.fieldLink RX3 22 "GlassHarpModel$State" "drops" "[I", Cond.methodLink RX3 97 yX3_come, Cond.instanceMethod yX3_come, Cond.selects RX3 yX3_come yX3_come, Cond.code yX3_come cX3_come 5 none, Cond.fieldLink RX3 25 "GlassHarpModel$State" "broken" "[I", Cond.fieldLink RX3 50 "GlassHarpModel$State" "missed" "I", Cond.fieldLink RX3 44 "GlassHarpModel$State" "played" "I", Cond.fieldLink RX3 47 "GlassHarpModel$State" "tuned" "I", Cond.fieldLink RX3 31 "GlassHarpModel$State" "times" "[I", Cond.methodLink RX3 82 yX3_off, Cond.instanceMethod yX3_off, Cond.selects RX3 yX3_off yX3_off, Cond.code yX3_off cX3_off 3 (some .int), Cond.methodLink RX3 70 Lib.Math.abs.name, Cond.static Lib.Math.abs.name, Cond.code Lib.Math.abs.name Lib.Math.abs.code 1 (some .int), Cond.methodLink RX3 66 yX3_tone, Cond.instanceMethod yX3_tone, Cond.selects RX3 yX3_tone yX3_tone]
def wsX4_play_r3 : List Cond := [Cond.code yX3_tone cX3_tone 2 (some .int)]
def wsX4_play : List Cond := .code yX4_play cX4_play 4 (some .int) :: ((wsX4_play_r1 ++ (wsX4_play_r2 ++ wsX4_play_r3)) ++ wsX40 ++ wsX30)
def wsX4_counted_r1 : List Cond := [Cond.fieldLink RX4 28 "GlassHarpModel" "s" "LGlassHarpModel$State;", Cond.fieldLink RX4 38 "GlassHarpModel" "glasses" "I", Cond.arrayClass .int, Cond.fieldLink RX4 91 "GlassHarpModel" "notes" "I", Cond.methodLink RX4 78 yX4_against, Cond.instanceMethod yX4_against, Cond.selects RX4 yX4_against yX4_against, Cond.initialized RX4, Cond.code yX4_against cX4_against 4 (some .int), Cond.methodLink RX4 68 yX3_isAgainst, Cond.instanceMethod yX3_isAgainst, Cond.selects RX3 yX3_isAgainst yX3_isAgainst, Cond.initialized RX3, Cond.code yX3_isAgainst cX3_isAgainst 4 (some .boolean), Cond.methodLink RX3 70 Lib.Math.abs.name, Cond.static Lib.Math.abs.name, Cond.initialized "java/lang/Math", Cond.code Lib.Math.abs.name Lib.Math.abs.code 1 (some .int), Cond.fieldLink RX3 28 "GlassHarpModel$State" "ring" "[I", Cond.methodLink RX3 66 yX3_tone, Cond.instanceMethod yX3_tone, Cond.selects RX3 yX3_tone yX3_tone, Cond.code yX3_tone cX3_tone 2 (some .int), Cond.fieldLink RX3 3 "GlassHarpModel$State" "this$0" "LGlassHarpModel;"]
def wsX4_counted_r2 : List Cond := [Cond.fieldLink RX3 22 "GlassHarpModel$State" "drops" "[I", Cond.methodLink RX3 60 Lib.Math.max.name, Cond.static Lib.Math.max.name, Cond.code Lib.Math.max.name Lib.Math.max.code 2 (some .int), Cond.methodLink RX4 109 yX3_cracked, Cond.instanceMethod yX3_cracked, Cond.selects RX3 yX3_cracked yX3_cracked, Cond.code yX3_cracked cX3_cracked 3 (some .int), Cond.fieldLink RX3 25 "GlassHarpModel$State" "broken" "[I"]
def wsX4_counted : List Cond := .code yX4_counted cX4_counted 5 (some .int) :: ((wsX4_counted_r1 ++ wsX4_counted_r2) ++ wsX40 ++ wsX30)
def wsX4_count_r1 : List Cond := [Cond.fieldLink RX4 35 "GlassHarpModel" "thrown" "I", Cond.methodLink RX4 41 yX4_isIn, Cond.static yX4_isIn, Cond.initialized RX4, Cond.code yX4_isIn cX4_isIn 3 (some .boolean), Cond.methodLink RX4 119 yX4_counted, Cond.instanceMethod yX4_counted, Cond.selects RX4 yX4_counted yX4_counted, Cond.code yX4_counted cX4_counted 5 (some .int), Cond.fieldLink RX4 28 "GlassHarpModel" "s" "LGlassHarpModel$State;", Cond.fieldLink RX4 38 "GlassHarpModel" "glasses" "I", Cond.arrayClass .int, Cond.fieldLink RX4 91 "GlassHarpModel" "notes" "I", Cond.methodLink RX4 78 yX4_against, Cond.instanceMethod yX4_against, Cond.selects RX4 yX4_against yX4_against, Cond.code yX4_against cX4_against 4 (some .int), Cond.methodLink RX4 68 yX3_isAgainst, Cond.instanceMethod yX3_isAgainst, Cond.selects RX3 yX3_isAgainst yX3_isAgainst, Cond.initialized RX3, Cond.code yX3_isAgainst cX3_isAgainst 4 (some .boolean), Cond.methodLink RX3 70 Lib.Math.abs.name, Cond.static Lib.Math.abs.name]
def wsX4_count_r2 : List Cond := [Cond.initialized "java/lang/Math", Cond.code Lib.Math.abs.name Lib.Math.abs.code 1 (some .int), Cond.fieldLink RX3 28 "GlassHarpModel$State" "ring" "[I", Cond.methodLink RX3 66 yX3_tone, Cond.instanceMethod yX3_tone, Cond.selects RX3 yX3_tone yX3_tone, Cond.code yX3_tone cX3_tone 2 (some .int), Cond.fieldLink RX3 3 "GlassHarpModel$State" "this$0" "LGlassHarpModel;", Cond.fieldLink RX3 22 "GlassHarpModel$State" "drops" "[I", Cond.methodLink RX3 60 Lib.Math.max.name, Cond.static Lib.Math.max.name, Cond.code Lib.Math.max.name Lib.Math.max.code 2 (some .int), Cond.methodLink RX4 109 yX3_cracked, Cond.instanceMethod yX3_cracked, Cond.selects RX3 yX3_cracked yX3_cracked, Cond.code yX3_cracked cX3_cracked 3 (some .int), Cond.fieldLink RX3 25 "GlassHarpModel$State" "broken" "[I", Cond.methodLink RX4 49 yX4_no, Cond.instanceMethod yX4_no, Cond.selects RX4 yX4_no yX4_no, Cond.code yX4_no cX4_no 2 (some .int)]
def wsX4_count : List Cond := .code yX4_count cX4_count 2 (some .int) :: ((wsX4_count_r1 ++ wsX4_count_r2) ++ wsX40 ++ wsX30)
def wsX4_needed : List Cond := .code yX4_needed cX4_needed 4 (some .int) :: ([.fieldLink RX4 20 "GlassHarpModel" "size" "[I", .methodLink RX4 41 yX4_isIn, .static yX4_isIn, .initialized RX4, .code yX4_isIn cX4_isIn 3 (some .boolean)] ++ wsX40)
def wsX4_needs : List Cond := .code yX4_needs cX4_needs 3 (some .int) :: ([.fieldLink RX4 35 "GlassHarpModel" "thrown" "I", .methodLink RX4 56 yX4_isGlass, .instanceMethod yX4_isGlass, .selects RX4 yX4_isGlass yX4_isGlass, .initialized RX4, .code yX4_isGlass cX4_isGlass 2 (some .boolean), .fieldLink RX4 38 "GlassHarpModel" "glasses" "I", .methodLink RX4 41 yX4_isIn, .static yX4_isIn, .code yX4_isIn cX4_isIn 3 (some .boolean), .methodLink RX4 49 yX4_no, .instanceMethod yX4_no, .selects RX4 yX4_no yX4_no, .code yX4_no cX4_no 2 (some .int), .methodLink RX4 122 yX4_needed, .instanceMethod yX4_needed, .selects RX4 yX4_needed yX4_needed, .code yX4_needed cX4_needed 4 (some .int), .fieldLink RX4 20 "GlassHarpModel" "size" "[I"] ++ wsX40)
def wsX4_run_r1 : List Cond := [Cond.fieldLink RX4 32 "GlassHarpModel" "ahead" "LGlassHarpModel$State;", Cond.methodLink RX4 103 yX3_pass, Cond.instanceMethod yX3_pass, Cond.selects RX3 yX3_pass yX3_pass, Cond.initialized RX3, Cond.code yX3_pass cX3_pass 2 none, Cond.fieldLink RX3 15 "GlassHarpModel$State" "air" "[I", Cond.fieldLink RX3 19 "GlassHarpModel$State" "pump" "[I", Cond.methodLink RX3 85 Lib.Math.min.name, Cond.static Lib.Math.min.name, Cond.initialized "java/lang/Math", Cond.code Lib.Math.min.name Lib.Math.min.code 2 (some .int), Cond.fieldLink RX3 76 "GlassHarpModel$State" "busy" "I", Cond.fieldLink RX3 3 "GlassHarpModel$State" "this$0" "LGlassHarpModel;", Cond.fieldLink RX3 40 "GlassHarpModel$State" "beat" "I", Cond.fieldLink RX3 28 "GlassHarpModel$State" "ring" "[I", Cond.methodLink RX3 60 Lib.Math.max.name, Cond.static Lib.Math.max.name, Cond.code Lib.Math.max.name Lib.Math.max.code 2 (some .int), Cond.fieldLink RX3 22 "GlassHarpModel$State" "drops" "[I", Cond.methodLink RX3 97 yX3_come, Cond.instanceMethod yX3_come, Cond.selects RX3 yX3_come yX3_come, Cond.code yX3_come cX3_come 5 none]
def wsX4_run_r2 : List Cond := [Cond.fieldLink RX3 25 "GlassHarpModel$State" "broken" "[I", Cond.fieldLink RX3 50 "GlassHarpModel$State" "missed" "I", Cond.fieldLink RX3 44 "GlassHarpModel$State" "played" "I", Cond.fieldLink RX3 47 "GlassHarpModel$State" "tuned" "I", Cond.fieldLink RX3 31 "GlassHarpModel$State" "times" "[I", Cond.methodLink RX3 82 yX3_off, Cond.instanceMethod yX3_off, Cond.selects RX3 yX3_off yX3_off, Cond.code yX3_off cX3_off 3 (some .int), Cond.methodLink RX3 70 Lib.Math.abs.name, Cond.static Lib.Math.abs.name, Cond.code Lib.Math.abs.name Lib.Math.abs.code 1 (some .int), Cond.methodLink RX3 66 yX3_tone, Cond.instanceMethod yX3_tone, Cond.selects RX3 yX3_tone yX3_tone, Cond.code yX3_tone cX3_tone 2 (some .int)]
def wsX4_run : List Cond := .code yX4_run cX4_run 3 none :: ((wsX4_run_r1 ++ wsX4_run_r2) ++ wsX40 ++ wsX30)
def wsX4_foresee_r1 : List Cond := [Cond.fieldLink RX4 35 "GlassHarpModel" "thrown" "I", Cond.fieldLink RX4 32 "GlassHarpModel" "ahead" "LGlassHarpModel$State;", Cond.fieldLink RX4 28 "GlassHarpModel" "s" "LGlassHarpModel$State;", Cond.arrayClass .int, Cond.methodLink RX4 41 yX4_isIn, Cond.static yX4_isIn, Cond.initialized RX4, Cond.code yX4_isIn cX4_isIn 3 (some .boolean), Cond.methodLink RX4 49 yX4_no, Cond.instanceMethod yX4_no, Cond.selects RX4 yX4_no yX4_no, Cond.code yX4_no cX4_no 2 (some .int), Cond.methodLink RX4 125 yX3_become, Cond.instanceMethod yX3_become, Cond.selects RX3 yX3_become yX3_become, Cond.initialized RX3, Cond.code yX3_become cX3_become 2 none, Cond.fieldLink RX3 40 "GlassHarpModel$State" "beat" "I", Cond.fieldLink RX3 44 "GlassHarpModel$State" "played" "I", Cond.fieldLink RX3 47 "GlassHarpModel$State" "tuned" "I", Cond.fieldLink RX3 50 "GlassHarpModel$State" "missed" "I", Cond.fieldLink RX3 15 "GlassHarpModel$State" "air" "[I", Cond.fieldLink RX3 19 "GlassHarpModel$State" "pump" "[I", Cond.fieldLink RX3 22 "GlassHarpModel$State" "drops" "[I"]
def wsX4_foresee_r2 : List Cond := [Cond.fieldLink RX3 25 "GlassHarpModel$State" "broken" "[I", Cond.fieldLink RX3 28 "GlassHarpModel$State" "ring" "[I", Cond.fieldLink RX3 31 "GlassHarpModel$State" "times" "[I", Cond.methodLink RX3 53 yX3_copy, Cond.instanceMethod yX3_copy, Cond.selects RX3 yX3_copy yX3_copy, Cond.code yX3_copy cX3_copy 3 none, Cond.methodLink RX3 34 arraycopyName, Cond.native arraycopyName, Cond.static arraycopyName, Cond.initialized "java/lang/System", Cond.methodLink RX4 129 yX4_run, Cond.instanceMethod yX4_run, Cond.selects RX4 yX4_run yX4_run, Cond.code yX4_run cX4_run 3 none, Cond.methodLink RX4 103 yX3_pass, Cond.instanceMethod yX3_pass, Cond.selects RX3 yX3_pass yX3_pass, Cond.code yX3_pass cX3_pass 2 none, Cond.methodLink RX3 85 Lib.Math.min.name, Cond.static Lib.Math.min.name, Cond.initialized "java/lang/Math", Cond.code Lib.Math.min.name Lib.Math.min.code 2 (some .int), Cond.fieldLink RX3 76 "GlassHarpModel$State" "busy" "I"]
def wsX4_foresee_r3 : List Cond := [Cond.fieldLink RX3 3 "GlassHarpModel$State" "this$0" "LGlassHarpModel;", Cond.methodLink RX3 60 Lib.Math.max.name, Cond.static Lib.Math.max.name, Cond.code Lib.Math.max.name Lib.Math.max.code 2 (some .int), Cond.methodLink RX3 97 yX3_come, Cond.instanceMethod yX3_come, Cond.selects RX3 yX3_come yX3_come, Cond.code yX3_come cX3_come 5 none, Cond.methodLink RX3 82 yX3_off, Cond.instanceMethod yX3_off, Cond.selects RX3 yX3_off yX3_off, Cond.code yX3_off cX3_off 3 (some .int), Cond.methodLink RX3 70 Lib.Math.abs.name, Cond.static Lib.Math.abs.name, Cond.code Lib.Math.abs.name Lib.Math.abs.code 1 (some .int), Cond.methodLink RX3 66 yX3_tone, Cond.instanceMethod yX3_tone, Cond.selects RX3 yX3_tone yX3_tone, Cond.code yX3_tone cX3_tone 2 (some .int), Cond.methodLink RX4 109 yX3_cracked, Cond.instanceMethod yX3_cracked, Cond.selects RX3 yX3_cracked yX3_cracked, Cond.code yX3_cracked cX3_cracked 3 (some .int)]
def wsX4_foresee : List Cond := .code yX4_foresee cX4_foresee 4 (some .int) :: ((wsX4_foresee_r1 ++ (wsX4_foresee_r2 ++ wsX4_foresee_r3)) ++ wsX40 ++ wsX30)
def wsX4_advise_r1 : List Cond := [Cond.fieldLink RX4 35 "GlassHarpModel" "thrown" "I", Cond.fieldLink RX4 32 "GlassHarpModel" "ahead" "LGlassHarpModel$State;", Cond.fieldLink RX4 28 "GlassHarpModel" "s" "LGlassHarpModel$State;", Cond.fieldLink RX4 38 "GlassHarpModel" "glasses" "I", Cond.methodLink RX4 41 yX4_isIn, Cond.static yX4_isIn, Cond.initialized RX4, Cond.code yX4_isIn cX4_isIn 3 (some .boolean), Cond.methodLink RX4 49 yX4_no, Cond.instanceMethod yX4_no, Cond.selects RX4 yX4_no yX4_no, Cond.code yX4_no cX4_no 2 (some .int), Cond.methodLink RX4 125 yX3_become, Cond.instanceMethod yX3_become, Cond.selects RX3 yX3_become yX3_become, Cond.initialized RX3, Cond.code yX3_become cX3_become 2 none, Cond.fieldLink RX3 40 "GlassHarpModel$State" "beat" "I", Cond.fieldLink RX3 44 "GlassHarpModel$State" "played" "I", Cond.fieldLink RX3 47 "GlassHarpModel$State" "tuned" "I", Cond.fieldLink RX3 50 "GlassHarpModel$State" "missed" "I", Cond.fieldLink RX3 15 "GlassHarpModel$State" "air" "[I", Cond.fieldLink RX3 19 "GlassHarpModel$State" "pump" "[I", Cond.fieldLink RX3 22 "GlassHarpModel$State" "drops" "[I"]
def wsX4_advise_r2 : List Cond := [Cond.fieldLink RX3 25 "GlassHarpModel$State" "broken" "[I", Cond.fieldLink RX3 28 "GlassHarpModel$State" "ring" "[I", Cond.fieldLink RX3 31 "GlassHarpModel$State" "times" "[I", Cond.methodLink RX3 53 yX3_copy, Cond.instanceMethod yX3_copy, Cond.selects RX3 yX3_copy yX3_copy, Cond.code yX3_copy cX3_copy 3 none, Cond.methodLink RX3 34 arraycopyName, Cond.native arraycopyName, Cond.static arraycopyName, Cond.initialized "java/lang/System", Cond.methodLink RX4 129 yX4_run, Cond.instanceMethod yX4_run, Cond.selects RX4 yX4_run yX4_run, Cond.code yX4_run cX4_run 3 none, Cond.methodLink RX4 103 yX3_pass, Cond.instanceMethod yX3_pass, Cond.selects RX3 yX3_pass yX3_pass, Cond.code yX3_pass cX3_pass 2 none, Cond.methodLink RX3 85 Lib.Math.min.name, Cond.static Lib.Math.min.name, Cond.initialized "java/lang/Math", Cond.code Lib.Math.min.name Lib.Math.min.code 2 (some .int), Cond.fieldLink RX3 76 "GlassHarpModel$State" "busy" "I"]
def wsX4_advise_r3 : List Cond := [Cond.fieldLink RX3 3 "GlassHarpModel$State" "this$0" "LGlassHarpModel;", Cond.methodLink RX3 60 Lib.Math.max.name, Cond.static Lib.Math.max.name, Cond.code Lib.Math.max.name Lib.Math.max.code 2 (some .int), Cond.methodLink RX3 97 yX3_come, Cond.instanceMethod yX3_come, Cond.selects RX3 yX3_come yX3_come, Cond.code yX3_come cX3_come 5 none, Cond.methodLink RX3 82 yX3_off, Cond.instanceMethod yX3_off, Cond.selects RX3 yX3_off yX3_off, Cond.code yX3_off cX3_off 3 (some .int), Cond.methodLink RX3 70 Lib.Math.abs.name, Cond.static Lib.Math.abs.name, Cond.code Lib.Math.abs.name Lib.Math.abs.code 1 (some .int), Cond.methodLink RX3 66 yX3_tone, Cond.instanceMethod yX3_tone, Cond.selects RX3 yX3_tone yX3_tone, Cond.code yX3_tone cX3_tone 2 (some .int), Cond.methodLink RX4 122 yX4_needed, Cond.instanceMethod yX4_needed, Cond.selects RX4 yX4_needed yX4_needed, Cond.code yX4_needed cX4_needed 4 (some .int), Cond.fieldLink RX4 20 "GlassHarpModel" "size" "[I"]
def wsX4_advise : List Cond := .code yX4_advise cX4_advise 6 (some .int) :: ((wsX4_advise_r1 ++ (wsX4_advise_r2 ++ wsX4_advise_r3)) ++ wsX40 ++ wsX30)
def wsX4_missedWith_r1 : List Cond := [Cond.fieldLink RX4 32 "GlassHarpModel" "ahead" "LGlassHarpModel$State;", Cond.fieldLink RX4 28 "GlassHarpModel" "s" "LGlassHarpModel$State;", Cond.methodLink RX4 125 yX3_become, Cond.instanceMethod yX3_become, Cond.selects RX3 yX3_become yX3_become, Cond.initialized RX3, Cond.code yX3_become cX3_become 2 none, Cond.fieldLink RX3 40 "GlassHarpModel$State" "beat" "I", Cond.fieldLink RX3 44 "GlassHarpModel$State" "played" "I", Cond.fieldLink RX3 47 "GlassHarpModel$State" "tuned" "I", Cond.fieldLink RX3 50 "GlassHarpModel$State" "missed" "I", Cond.fieldLink RX3 15 "GlassHarpModel$State" "air" "[I", Cond.fieldLink RX3 19 "GlassHarpModel$State" "pump" "[I", Cond.fieldLink RX3 22 "GlassHarpModel$State" "drops" "[I", Cond.fieldLink RX3 25 "GlassHarpModel$State" "broken" "[I", Cond.fieldLink RX3 28 "GlassHarpModel$State" "ring" "[I", Cond.fieldLink RX3 31 "GlassHarpModel$State" "times" "[I", Cond.methodLink RX3 53 yX3_copy, Cond.instanceMethod yX3_copy, Cond.selects RX3 yX3_copy yX3_copy, Cond.code yX3_copy cX3_copy 3 none, Cond.methodLink RX3 34 arraycopyName, Cond.native arraycopyName, Cond.static arraycopyName]
def wsX4_missedWith_r2 : List Cond := [Cond.initialized "java/lang/System", Cond.methodLink RX4 129 yX4_run, Cond.instanceMethod yX4_run, Cond.selects RX4 yX4_run yX4_run, Cond.initialized RX4, Cond.code yX4_run cX4_run 3 none, Cond.methodLink RX4 103 yX3_pass, Cond.instanceMethod yX3_pass, Cond.selects RX3 yX3_pass yX3_pass, Cond.code yX3_pass cX3_pass 2 none, Cond.methodLink RX3 85 Lib.Math.min.name, Cond.static Lib.Math.min.name, Cond.initialized "java/lang/Math", Cond.code Lib.Math.min.name Lib.Math.min.code 2 (some .int), Cond.fieldLink RX3 76 "GlassHarpModel$State" "busy" "I", Cond.fieldLink RX3 3 "GlassHarpModel$State" "this$0" "LGlassHarpModel;", Cond.methodLink RX3 60 Lib.Math.max.name, Cond.static Lib.Math.max.name, Cond.code Lib.Math.max.name Lib.Math.max.code 2 (some .int), Cond.methodLink RX3 97 yX3_come, Cond.instanceMethod yX3_come, Cond.selects RX3 yX3_come yX3_come, Cond.code yX3_come cX3_come 5 none, Cond.methodLink RX3 82 yX3_off]
def wsX4_missedWith_r3 : List Cond := [Cond.instanceMethod yX3_off, Cond.selects RX3 yX3_off yX3_off, Cond.code yX3_off cX3_off 3 (some .int), Cond.methodLink RX3 70 Lib.Math.abs.name, Cond.static Lib.Math.abs.name, Cond.code Lib.Math.abs.name Lib.Math.abs.code 1 (some .int), Cond.methodLink RX3 66 yX3_tone, Cond.instanceMethod yX3_tone, Cond.selects RX3 yX3_tone yX3_tone, Cond.code yX3_tone cX3_tone 2 (some .int)]
def wsX4_missedWith : List Cond := .code yX4_missedWith cX4_missedWith 4 (some .int) :: ((wsX4_missedWith_r1 ++ (wsX4_missedWith_r2 ++ wsX4_missedWith_r3)) ++ wsX40 ++ wsX30)
def wsX4_wants_r1 : List Cond := [Cond.fieldLink RX4 35 "GlassHarpModel" "thrown" "I", Cond.methodLink RX4 45 yX4_isRow, Cond.static yX4_isRow, Cond.initialized RX4, Cond.code yX4_isRow cX4_isRow 1 (some .boolean), Cond.methodLink RX4 41 yX4_isIn, Cond.static yX4_isIn, Cond.code yX4_isIn cX4_isIn 3 (some .boolean), Cond.methodLink RX4 49 yX4_no, Cond.instanceMethod yX4_no, Cond.selects RX4 yX4_no yX4_no, Cond.code yX4_no cX4_no 2 (some .int), Cond.methodLink RX4 133 yX4_missedWith, Cond.instanceMethod yX4_missedWith, Cond.selects RX4 yX4_missedWith yX4_missedWith, Cond.code yX4_missedWith cX4_missedWith 4 (some .int), Cond.fieldLink RX4 32 "GlassHarpModel" "ahead" "LGlassHarpModel$State;", Cond.fieldLink RX4 28 "GlassHarpModel" "s" "LGlassHarpModel$State;", Cond.methodLink RX4 125 yX3_become, Cond.instanceMethod yX3_become, Cond.selects RX3 yX3_become yX3_become, Cond.initialized RX3, Cond.code yX3_become cX3_become 2 none, Cond.fieldLink RX3 40 "GlassHarpModel$State" "beat" "I"]
def wsX4_wants_r2 : List Cond := [Cond.fieldLink RX3 44 "GlassHarpModel$State" "played" "I", Cond.fieldLink RX3 47 "GlassHarpModel$State" "tuned" "I", Cond.fieldLink RX3 50 "GlassHarpModel$State" "missed" "I", Cond.fieldLink RX3 15 "GlassHarpModel$State" "air" "[I", Cond.fieldLink RX3 19 "GlassHarpModel$State" "pump" "[I", Cond.fieldLink RX3 22 "GlassHarpModel$State" "drops" "[I", Cond.fieldLink RX3 25 "GlassHarpModel$State" "broken" "[I", Cond.fieldLink RX3 28 "GlassHarpModel$State" "ring" "[I", Cond.fieldLink RX3 31 "GlassHarpModel$State" "times" "[I", Cond.methodLink RX3 53 yX3_copy, Cond.instanceMethod yX3_copy, Cond.selects RX3 yX3_copy yX3_copy, Cond.code yX3_copy cX3_copy 3 none, Cond.methodLink RX3 34 arraycopyName, Cond.native arraycopyName, Cond.static arraycopyName, Cond.initialized "java/lang/System", Cond.methodLink RX4 129 yX4_run, Cond.instanceMethod yX4_run, Cond.selects RX4 yX4_run yX4_run, Cond.code yX4_run cX4_run 3 none, Cond.methodLink RX4 103 yX3_pass, Cond.instanceMethod yX3_pass, Cond.selects RX3 yX3_pass yX3_pass]
def wsX4_wants_r3 : List Cond := [Cond.code yX3_pass cX3_pass 2 none, Cond.methodLink RX3 85 Lib.Math.min.name, Cond.static Lib.Math.min.name, Cond.initialized "java/lang/Math", Cond.code Lib.Math.min.name Lib.Math.min.code 2 (some .int), Cond.fieldLink RX3 76 "GlassHarpModel$State" "busy" "I", Cond.fieldLink RX3 3 "GlassHarpModel$State" "this$0" "LGlassHarpModel;", Cond.methodLink RX3 60 Lib.Math.max.name, Cond.static Lib.Math.max.name, Cond.code Lib.Math.max.name Lib.Math.max.code 2 (some .int), Cond.methodLink RX3 97 yX3_come, Cond.instanceMethod yX3_come, Cond.selects RX3 yX3_come yX3_come, Cond.code yX3_come cX3_come 5 none, Cond.methodLink RX3 82 yX3_off, Cond.instanceMethod yX3_off, Cond.selects RX3 yX3_off yX3_off, Cond.code yX3_off cX3_off 3 (some .int), Cond.methodLink RX3 70 Lib.Math.abs.name, Cond.static Lib.Math.abs.name, Cond.code Lib.Math.abs.name Lib.Math.abs.code 1 (some .int), Cond.methodLink RX3 66 yX3_tone, Cond.instanceMethod yX3_tone, Cond.selects RX3 yX3_tone yX3_tone]
def wsX4_wants_r4 : List Cond := [Cond.code yX3_tone cX3_tone 2 (some .int)]
def wsX4_wants : List Cond := .code yX4_wants cX4_wants 5 (some .int) :: ((wsX4_wants_r1 ++ (wsX4_wants_r2 ++ (wsX4_wants_r3 ++ wsX4_wants_r4))) ++ wsX40 ++ wsX30)
def wsX4_mean : List Cond := .code yX4_mean cX4_mean 2 (some .double) :: ([.fieldLink RX4 35 "GlassHarpModel" "thrown" "I", .fieldLink RX4 28 "GlassHarpModel" "s" "LGlassHarpModel$State;"] ++ wsX40 ++ wsX30)
def wsX4_digest_r1 : List Cond := [Cond.fieldLink RX4 35 "GlassHarpModel" "thrown" "I", Cond.constantLong RX4 137 (829), Cond.constantLong RX4 139 (31), Cond.fieldLink RX4 7 "GlassHarpModel" "length" "I", Cond.fieldLink RX4 38 "GlassHarpModel" "glasses" "I", Cond.fieldLink RX4 91 "GlassHarpModel" "notes" "I", Cond.fieldLink RX4 13 "GlassHarpModel" "score" "[I", Cond.methodLink RX4 119 yX4_counted, Cond.instanceMethod yX4_counted, Cond.selects RX4 yX4_counted yX4_counted, Cond.initialized RX4, Cond.code yX4_counted cX4_counted 5 (some .int), Cond.fieldLink RX4 28 "GlassHarpModel" "s" "LGlassHarpModel$State;", Cond.arrayClass .int, Cond.methodLink RX4 78 yX4_against, Cond.instanceMethod yX4_against, Cond.selects RX4 yX4_against yX4_against, Cond.code yX4_against cX4_against 4 (some .int), Cond.methodLink RX4 68 yX3_isAgainst, Cond.instanceMethod yX3_isAgainst, Cond.selects RX3 yX3_isAgainst yX3_isAgainst, Cond.initialized RX3, Cond.code yX3_isAgainst cX3_isAgainst 4 (some .boolean), Cond.methodLink RX3 70 Lib.Math.abs.name]
def wsX4_digest_r2 : List Cond := [Cond.static Lib.Math.abs.name, Cond.initialized "java/lang/Math", Cond.code Lib.Math.abs.name Lib.Math.abs.code 1 (some .int), Cond.fieldLink RX3 28 "GlassHarpModel$State" "ring" "[I", Cond.methodLink RX3 66 yX3_tone, Cond.instanceMethod yX3_tone, Cond.selects RX3 yX3_tone yX3_tone, Cond.code yX3_tone cX3_tone 2 (some .int), Cond.fieldLink RX3 3 "GlassHarpModel$State" "this$0" "LGlassHarpModel;", Cond.fieldLink RX3 22 "GlassHarpModel$State" "drops" "[I", Cond.methodLink RX3 60 Lib.Math.max.name, Cond.static Lib.Math.max.name, Cond.code Lib.Math.max.name Lib.Math.max.code 2 (some .int), Cond.methodLink RX4 109 yX3_cracked, Cond.instanceMethod yX3_cracked, Cond.selects RX3 yX3_cracked yX3_cracked, Cond.code yX3_cracked cX3_cracked 3 (some .int), Cond.fieldLink RX3 25 "GlassHarpModel$State" "broken" "[I", Cond.methodLink RX4 81 yX4_glassTold, Cond.instanceMethod yX4_glassTold, Cond.selects RX4 yX4_glassTold yX4_glassTold, Cond.code yX4_glassTold cX4_glassTold 4 (some .int), Cond.fieldLink RX4 17 "GlassHarpModel" "row" "[I", Cond.fieldLink RX4 20 "GlassHarpModel" "size" "[I"]
def wsX4_digest_r3 : List Cond := [Cond.methodLink RX4 62 yX3_tone, Cond.methodLink RX4 88 yX4_rowTold, Cond.instanceMethod yX4_rowTold, Cond.selects RX4 yX4_rowTold yX4_rowTold, Cond.code yX4_rowTold cX4_rowTold 5 (some .int)]
def wsX4_digest : List Cond := .code yX4_digest cX4_digest 5 (some .long) :: ((wsX4_digest_r1 ++ (wsX4_digest_r2 ++ wsX4_digest_r3)) ++ wsX40 ++ wsX30)
def wsJ9_abs_0f7a4 : List Cond := .code yJ9_abs_0f7a4 cJ9_abs_0f7a4 1 (some .int) :: ([])
def wsJ9_max_7cf53 : List Cond := .code yJ9_max_7cf53 cJ9_max_7cf53 2 (some .int) :: ([])
def wsJ9_min_7cf53 : List Cond := .code yJ9_min_7cf53 cJ9_min_7cf53 2 (some .int) :: ([])
def wsL_set : List Cond := .codeWith yL_set cL_set 6 (some .int) [(0, 12, 15, 13), (0, 12, 19, 15)] :: ([.classLink RL 13 "java/lang/IllegalArgumentException", .classLink RL 15 "java/lang/IllegalStateException", .methodLink RL 7 yX2_set, .instanceMethod yX2_set, .selects RX2 yX2_set yX2_set, .initialized RX2, .code yX2_set cX2_set 5 (some .int), .classLink RX2 32 "java/lang/IllegalArgumentException", .initialized "java/lang/IllegalArgumentException", .classLink RX2 45 "java/lang/IllegalStateException", .initialized "java/lang/IllegalStateException", .fieldLink RX2 21 "GlassHarp" "now" "LGlassHarp$Orchestra;", .methodLink RX2 28 yX2_isWithin, .static yX2_isWithin, .code yX2_isWithin cX2_isWithin 3 (some .boolean), .instanceMethod yX0_addGlass, .initialized RX0, .selects RX0 yX0_addGlass yX0_addGlass, .code yX0_addGlass cX0_addGlass 5 (some .int), .fieldLink RX0 40 "GlassHarp$Orchestra" "glasses" "I", .fieldLink RX0 9 "GlassHarp$Orchestra" "rows" "[I", .fieldLink RX0 15 "GlassHarp$Orchestra" "sizes" "[I", .fieldLink RX0 18 "GlassHarp$Orchestra" "drops" "[I"] ++ wsX20 ++ wsX00 ++ (vx_atS RX2 36 "java/lang/IllegalArgumentException" ["java/lang/RuntimeException", "java/lang/Exception"]).filter goodWord ++ (vx_atS RX2 49 "java/lang/IllegalStateException" ["java/lang/RuntimeException", "java/lang/Exception"]).filter goodWord)
def wsL_drop_r1 : List Cond := [Cond.classLink RL 21 "java/lang/IndexOutOfBoundsException", Cond.classLink RL 13 "java/lang/IllegalArgumentException", Cond.classLink RL 15 "java/lang/IllegalStateException", Cond.methodLink RL 17 yX2_drop, Cond.instanceMethod yX2_drop, Cond.selects RX2 yX2_drop yX2_drop, Cond.initialized RX2, Cond.code yX2_drop cX2_drop 4 (some .int), Cond.classLink RX2 54 "java/lang/IndexOutOfBoundsException", Cond.initialized "java/lang/IndexOutOfBoundsException", Cond.classLink RX2 32 "java/lang/IllegalArgumentException", Cond.initialized "java/lang/IllegalArgumentException", Cond.classLink RX2 45 "java/lang/IllegalStateException", Cond.initialized "java/lang/IllegalStateException", Cond.fieldLink RX2 21 "GlassHarp" "now" "LGlassHarp$Orchestra;", Cond.instanceMethod yX0_hasGlass, Cond.initialized RX0, Cond.selects RX0 yX0_hasGlass yX0_hasGlass, Cond.code yX0_hasGlass cX0_hasGlass 2 (some .boolean), Cond.fieldLink RX0 40 "GlassHarp$Orchestra" "glasses" "I", Cond.methodLink RX2 28 yX2_isWithin, Cond.static yX2_isWithin, Cond.code yX2_isWithin cX2_isWithin 3 (some .boolean), Cond.instanceMethod yX0_mostDrops]
def wsL_drop_r2 : List Cond := [Cond.selects RX0 yX0_mostDrops yX0_mostDrops, Cond.code yX0_mostDrops cX0_mostDrops 2 (some .int), Cond.fieldLink RX0 15 "GlassHarp$Orchestra" "sizes" "[I", Cond.methodLink RX0 64 yX0_hasGlass, Cond.instanceMethod yX0_toneOf, Cond.selects RX0 yX0_toneOf yX0_toneOf, Cond.code yX0_toneOf cX0_toneOf 4 (some .int), Cond.fieldLink RX0 18 "GlassHarp$Orchestra" "drops" "[I", Cond.methodLink RX0 75 Lib.Math.max.name, Cond.static Lib.Math.max.name, Cond.initialized "java/lang/Math", Cond.code Lib.Math.max.name Lib.Math.max.code 2 (some .int), Cond.methodLink RX0 68 yX0_dropsPerTone, Cond.static yX0_dropsPerTone, Cond.code yX0_dropsPerTone cX0_dropsPerTone 1 (some .int), Cond.methodLink RX0 72 yX0_emptyTone, Cond.static yX0_emptyTone, Cond.code yX0_emptyTone cX0_emptyTone 1 (some .int)]
def wsL_drop : List Cond := .codeWith yL_drop cL_drop 5 (some .int) [(0, 10, 13, 21), (0, 10, 17, 13), (0, 10, 21, 15)] :: ((wsL_drop_r1 ++ wsL_drop_r2) ++ wsX20 ++ wsX00 ++ (vx_atS RX2 58 "java/lang/IndexOutOfBoundsException" ["java/lang/RuntimeException", "java/lang/Exception"]).filter goodWord ++ (vx_atS RX2 36 "java/lang/IllegalArgumentException" ["java/lang/RuntimeException", "java/lang/Exception"]).filter goodWord ++ (vx_atS RX2 49 "java/lang/IllegalStateException" ["java/lang/RuntimeException", "java/lang/Exception"]).filter goodWord)
def wsL_pump : List Cond := .codeWith yL_pump cL_pump 5 (some .int) [(0, 10, 13, 21), (0, 10, 17, 13)] :: ([.classLink RL 21 "java/lang/IndexOutOfBoundsException", .classLink RL 13 "java/lang/IllegalArgumentException", .methodLink RL 23 yX2_pump, .instanceMethod yX2_pump, .selects RX2 yX2_pump yX2_pump, .initialized RX2, .code yX2_pump cX2_pump 4 (some .int), .classLink RX2 54 "java/lang/IndexOutOfBoundsException", .initialized "java/lang/IndexOutOfBoundsException", .classLink RX2 32 "java/lang/IllegalArgumentException", .initialized "java/lang/IllegalArgumentException", .fieldLink RX2 21 "GlassHarp" "now" "LGlassHarp$Orchestra;", .methodLink RX2 28 yX2_isWithin, .static yX2_isWithin, .code yX2_isWithin cX2_isWithin 3 (some .boolean)] ++ wsX20 ++ wsX00 ++ (vx_atS RX2 58 "java/lang/IndexOutOfBoundsException" ["java/lang/RuntimeException", "java/lang/Exception"]).filter goodWord ++ (vx_atS RX2 36 "java/lang/IllegalArgumentException" ["java/lang/RuntimeException", "java/lang/Exception"]).filter goodWord)
def wsL_glass_r1 : List Cond := [Cond.classLink RL 21 "java/lang/IndexOutOfBoundsException", Cond.methodLink RL 26 yX2_glass, Cond.instanceMethod yX2_glass, Cond.selects RX2 yX2_glass yX2_glass, Cond.initialized RX2, Cond.code yX2_glass cX2_glass 3 (some .int), Cond.classLink RX2 54 "java/lang/IndexOutOfBoundsException", Cond.initialized "java/lang/IndexOutOfBoundsException", Cond.fieldLink RX2 21 "GlassHarp" "now" "LGlassHarp$Orchestra;", Cond.instanceMethod yX0_hasGlass, Cond.initialized RX0, Cond.selects RX0 yX0_hasGlass yX0_hasGlass, Cond.code yX0_hasGlass cX0_hasGlass 2 (some .boolean), Cond.fieldLink RX0 40 "GlassHarp$Orchestra" "glasses" "I", Cond.methodLink RX2 28 yX2_isWithin, Cond.static yX2_isWithin, Cond.code yX2_isWithin cX2_isWithin 3 (some .boolean), Cond.instanceMethod yX0_toneOf, Cond.selects RX0 yX0_toneOf yX0_toneOf, Cond.code yX0_toneOf cX0_toneOf 4 (some .int), Cond.fieldLink RX0 15 "GlassHarp$Orchestra" "sizes" "[I", Cond.fieldLink RX0 18 "GlassHarp$Orchestra" "drops" "[I", Cond.methodLink RX0 75 Lib.Math.max.name, Cond.static Lib.Math.max.name]
def wsL_glass_r2 : List Cond := [Cond.initialized "java/lang/Math", Cond.code Lib.Math.max.name Lib.Math.max.code 2 (some .int), Cond.methodLink RX0 64 yX0_hasGlass, Cond.methodLink RX0 68 yX0_dropsPerTone, Cond.static yX0_dropsPerTone, Cond.code yX0_dropsPerTone cX0_dropsPerTone 1 (some .int), Cond.methodLink RX0 72 yX0_emptyTone, Cond.static yX0_emptyTone, Cond.code yX0_emptyTone cX0_emptyTone 1 (some .int), Cond.instanceMethod yX0_glassesBeatingAgainst, Cond.selects RX0 yX0_glassesBeatingAgainst yX0_glassesBeatingAgainst, Cond.code yX0_glassesBeatingAgainst cX0_glassesBeatingAgainst 4 (some .int), Cond.methodLink RX0 97 yX0_beatAgainst, Cond.instanceMethod yX0_beatAgainst, Cond.selects RX0 yX0_beatAgainst yX0_beatAgainst, Cond.code yX0_beatAgainst cX0_beatAgainst 3 (some .boolean), Cond.fieldLink RX0 25 "GlassHarp$Orchestra" "rings" "[I", Cond.methodLink RX0 91 yX0_toneOf, Cond.static yX2_distance, Cond.code yX2_distance cX2_distance 2 (some .int)]
def wsL_glass : List Cond := .codeWith yL_glass cL_glass 5 (some .int) [(0, 10, 13, 21)] :: ((wsL_glass_r1 ++ wsL_glass_r2) ++ wsX20 ++ wsX00 ++ (vx_atS RX2 58 "java/lang/IndexOutOfBoundsException" ["java/lang/RuntimeException", "java/lang/Exception"]).filter goodWord)
def wsL_row : List Cond := .codeWith yL_row cL_row 5 (some .int) [(0, 10, 13, 21)] :: ([.classLink RL 21 "java/lang/IndexOutOfBoundsException", .methodLink RL 29 yX2_row, .instanceMethod yX2_row, .selects RX2 yX2_row yX2_row, .initialized RX2, .code yX2_row cX2_row 3 (some .int), .classLink RX2 54 "java/lang/IndexOutOfBoundsException", .initialized "java/lang/IndexOutOfBoundsException", .fieldLink RX2 21 "GlassHarp" "now" "LGlassHarp$Orchestra;", .methodLink RX2 28 yX2_isWithin, .static yX2_isWithin, .code yX2_isWithin cX2_isWithin 3 (some .boolean), .instanceMethod yX0_glassesInRow, .initialized RX0, .selects RX0 yX0_glassesInRow yX0_glassesInRow, .code yX0_glassesInRow cX0_glassesInRow 4 (some .int), .fieldLink RX0 40 "GlassHarp$Orchestra" "glasses" "I", .fieldLink RX0 9 "GlassHarp$Orchestra" "rows" "[I"] ++ wsX20 ++ wsX00 ++ (vx_atS RX2 58 "java/lang/IndexOutOfBoundsException" ["java/lang/RuntimeException", "java/lang/Exception"]).filter goodWord)
def wsL_setLength : List Cond := .codeWith yL_setLength cL_setLength 4 (some .int) [(0, 9, 12, 13)] :: ([.classLink RL 13 "java/lang/IllegalArgumentException", .methodLink RL 32 yX2_setLength, .instanceMethod yX2_setLength, .selects RX2 yX2_setLength yX2_setLength, .initialized RX2, .code yX2_setLength cX2_setLength 3 (some .int), .classLink RX2 32 "java/lang/IllegalArgumentException", .initialized "java/lang/IllegalArgumentException", .fieldLink RX2 10 "GlassHarp" "score" "LGlassHarp$Score;", .methodLink RX2 28 yX2_isWithin, .static yX2_isWithin, .code yX2_isWithin cX2_isWithin 3 (some .boolean)] ++ wsX20 ++ wsX10 ++ (vx_atS RX2 36 "java/lang/IllegalArgumentException" ["java/lang/RuntimeException", "java/lang/Exception"]).filter goodWord)
def wsL_note : List Cond := .codeWith yL_note cL_note 6 (some .int) [(0, 12, 15, 13), (0, 12, 19, 15)] :: ([.classLink RL 13 "java/lang/IllegalArgumentException", .classLink RL 15 "java/lang/IllegalStateException", .methodLink RL 36 yX2_note, .instanceMethod yX2_note, .selects RX2 yX2_note yX2_note, .initialized RX2, .code yX2_note cX2_note 4 (some .int), .classLink RX2 32 "java/lang/IllegalArgumentException", .initialized "java/lang/IllegalArgumentException", .classLink RX2 45 "java/lang/IllegalStateException", .initialized "java/lang/IllegalStateException", .fieldLink RX2 10 "GlassHarp" "score" "LGlassHarp$Score;", .methodLink RX2 28 yX2_isWithin, .static yX2_isWithin, .code yX2_isWithin cX2_isWithin 3 (some .boolean), .instanceMethod yX1_write, .initialized RX1, .selects RX1 yX1_write yX1_write, .code yX1_write cX1_write 4 (some .boolean), .fieldLink RX1 21 "GlassHarp$Score" "notes" "I", .fieldLink RX1 9 "GlassHarp$Score" "beats" "[I", .fieldLink RX1 15 "GlassHarp$Score" "tones" "[I", .fieldLink RX1 18 "GlassHarp$Score" "forces" "[I"] ++ wsX20 ++ wsX10 ++ (vx_atS RX2 36 "java/lang/IllegalArgumentException" ["java/lang/RuntimeException", "java/lang/Exception"]).filter goodWord ++ (vx_atS RX2 49 "java/lang/IllegalStateException" ["java/lang/RuntimeException", "java/lang/Exception"]).filter goodWord)
def wsL_strike : List Cond := .codeWith yL_strike cL_strike 4 (some .int) [(0, 9, 12, 21)] :: ([.classLink RL 21 "java/lang/IndexOutOfBoundsException", .methodLink RL 39 yX2_strike, .instanceMethod yX2_strike, .selects RX2 yX2_strike yX2_strike, .initialized RX2, .code yX2_strike cX2_strike 3 (some .int), .classLink RX2 54 "java/lang/IndexOutOfBoundsException", .initialized "java/lang/IndexOutOfBoundsException", .fieldLink RX2 10 "GlassHarp" "score" "LGlassHarp$Score;", .instanceMethod yX1_hasNote, .initialized RX1, .selects RX1 yX1_hasNote yX1_hasNote, .code yX1_hasNote cX1_hasNote 2 (some .boolean), .fieldLink RX1 21 "GlassHarp$Score" "notes" "I", .instanceMethod yX1_takeOut, .selects RX1 yX1_takeOut yX1_takeOut, .code yX1_takeOut cX1_takeOut 3 none, .fieldLink RX1 9 "GlassHarp$Score" "beats" "[I", .fieldLink RX1 15 "GlassHarp$Score" "tones" "[I", .fieldLink RX1 18 "GlassHarp$Score" "forces" "[I", .methodLink RX1 28 yX1_hasNote] ++ wsX20 ++ wsX10 ++ (vx_atS RX2 58 "java/lang/IndexOutOfBoundsException" ["java/lang/RuntimeException", "java/lang/Exception"]).filter goodWord)
def wsL_written : List Cond := .codeWith yL_written cL_written 5 (some .int) [(0, 10, 13, 21)] :: ([.classLink RL 21 "java/lang/IndexOutOfBoundsException", .methodLink RL 42 yX2_written, .instanceMethod yX2_written, .selects RX2 yX2_written yX2_written, .initialized RX2, .code yX2_written cX2_written 3 (some .int), .classLink RX2 54 "java/lang/IndexOutOfBoundsException", .initialized "java/lang/IndexOutOfBoundsException", .fieldLink RX2 10 "GlassHarp" "score" "LGlassHarp$Score;", .instanceMethod yX1_hasNote, .initialized RX1, .selects RX1 yX1_hasNote yX1_hasNote, .code yX1_hasNote cX1_hasNote 2 (some .boolean), .fieldLink RX1 21 "GlassHarp$Score" "notes" "I", .methodLink RX2 28 yX2_isWithin, .static yX2_isWithin, .code yX2_isWithin cX2_isWithin 3 (some .boolean)] ++ wsX20 ++ wsX10 ++ (vx_atS RX2 58 "java/lang/IndexOutOfBoundsException" ["java/lang/RuntimeException", "java/lang/Exception"]).filter goodWord)
def wsL_play_r1 : List Cond := [Cond.classLink RL 13 "java/lang/IllegalArgumentException", Cond.methodLink RL 45 yX2_play, Cond.instanceMethod yX2_play, Cond.selects RX2 yX2_play yX2_play, Cond.initialized RX2, Cond.code yX2_play cX2_play 3 (some .int), Cond.classLink RX2 32 "java/lang/IllegalArgumentException", Cond.initialized "java/lang/IllegalArgumentException", Cond.fieldLink RX2 21 "GlassHarp" "now" "LGlassHarp$Orchestra;", Cond.methodLink RX2 28 yX2_isWithin, Cond.static yX2_isWithin, Cond.code yX2_isWithin cX2_isWithin 3 (some .boolean), Cond.instanceMethod yX0_letGoBy, Cond.initialized RX0, Cond.selects RX0 yX0_letGoBy yX0_letGoBy, Cond.code yX0_letGoBy cX0_letGoBy 3 none, Cond.fieldLink RX0 44 "GlassHarp$Orchestra" "beat" "I", Cond.methodLink RX0 103 yX0_fillBellows, Cond.instanceMethod yX0_fillBellows, Cond.selects RX0 yX0_fillBellows yX0_fillBellows, Cond.code yX0_fillBellows cX0_fillBellows 2 none, Cond.fieldLink RX0 34 "GlassHarp$Orchestra" "air" "[I", Cond.fieldLink RX0 37 "GlassHarp$Orchestra" "pumps" "[I", Cond.methodLink RX0 112 Lib.Math.min.name]
def wsL_play_r2 : List Cond := [Cond.static Lib.Math.min.name, Cond.initialized "java/lang/Math", Cond.code Lib.Math.min.name Lib.Math.min.code 2 (some .int), Cond.methodLink RX0 106 yX0_playNotes, Cond.instanceMethod yX0_playNotes, Cond.selects RX0 yX0_playNotes yX0_playNotes, Cond.code yX0_playNotes cX0_playNotes 4 none, Cond.fieldLink RX0 40 "GlassHarp$Orchestra" "glasses" "I", Cond.fieldLink RX0 31 "GlassHarp$Orchestra" "busy" "[Z", Cond.fieldLink RX0 56 "GlassHarp$Orchestra" "score" "LGlassHarp$Score;", Cond.fieldLink RX0 53 "GlassHarp$Orchestra" "missed" "I", Cond.instanceMethod yX1_beatAt, Cond.initialized RX1, Cond.selects RX1 yX1_beatAt yX1_beatAt, Cond.code yX1_beatAt cX1_beatAt 2 (some .int), Cond.fieldLink RX1 25 "GlassHarp$Score" "length" "I", Cond.methodLink RX0 132 yX0_playerFor, Cond.instanceMethod yX0_playerFor, Cond.selects RX0 yX0_playerFor yX0_playerFor, Cond.code yX0_playerFor cX0_playerFor 7 (some .int), Cond.fieldLink RX0 21 "GlassHarp$Orchestra" "cracked" "[Z", Cond.fieldLink RX0 9 "GlassHarp$Orchestra" "rows" "[I", Cond.methodLink RX0 139 yX0_hasAir, Cond.instanceMethod yX0_hasAir]
def wsL_play_r3 : List Cond := [Cond.selects RX0 yX0_hasAir yX0_hasAir, Cond.code yX0_hasAir cX0_hasAir 3 (some .boolean), Cond.methodLink RX0 91 yX0_toneOf, Cond.instanceMethod yX0_toneOf, Cond.selects RX0 yX0_toneOf yX0_toneOf, Cond.code yX0_toneOf cX0_toneOf 4 (some .int), Cond.fieldLink RX0 15 "GlassHarp$Orchestra" "sizes" "[I", Cond.fieldLink RX0 18 "GlassHarp$Orchestra" "drops" "[I", Cond.methodLink RX0 75 Lib.Math.max.name, Cond.static Lib.Math.max.name, Cond.code Lib.Math.max.name Lib.Math.max.code 2 (some .int), Cond.methodLink RX0 64 yX0_hasGlass, Cond.instanceMethod yX0_hasGlass, Cond.selects RX0 yX0_hasGlass yX0_hasGlass, Cond.code yX0_hasGlass cX0_hasGlass 2 (some .boolean), Cond.methodLink RX0 68 yX0_dropsPerTone, Cond.static yX0_dropsPerTone, Cond.code yX0_dropsPerTone cX0_dropsPerTone 1 (some .int), Cond.methodLink RX0 72 yX0_emptyTone, Cond.static yX0_emptyTone, Cond.code yX0_emptyTone cX0_emptyTone 1 (some .int), Cond.static yX2_distance, Cond.code yX2_distance cX2_distance 2 (some .int), Cond.methodLink RX0 135 yX0_rub]
def wsL_play_r4 : List Cond := [Cond.instanceMethod yX0_rub, Cond.selects RX0 yX0_rub yX0_rub, Cond.code yX0_rub cX0_rub 5 none, Cond.fieldLink RX0 47 "GlassHarp$Orchestra" "played" "I", Cond.fieldLink RX0 50 "GlassHarp$Orchestra" "inTune" "I", Cond.fieldLink RX0 28 "GlassHarp$Orchestra" "plays" "[I", Cond.fieldLink RX0 25 "GlassHarp$Orchestra" "rings" "[I", Cond.methodLink RX0 109 yX0_fadeAndDry, Cond.instanceMethod yX0_fadeAndDry, Cond.selects RX0 yX0_fadeAndDry yX0_fadeAndDry, Cond.code yX0_fadeAndDry cX0_fadeAndDry 3 none]
def wsL_play : List Cond := .codeWith yL_play cL_play 4 (some .int) [(0, 9, 12, 13)] :: ((wsL_play_r1 ++ (wsL_play_r2 ++ (wsL_play_r3 ++ wsL_play_r4))) ++ wsX20 ++ wsX00 ++ wsX10 ++ (vx_atS RX2 36 "java/lang/IllegalArgumentException" ["java/lang/RuntimeException", "java/lang/Exception"]).filter goodWord)
def wsL_count_r1 : List Cond := [Cond.classLink RL 21 "java/lang/IndexOutOfBoundsException", Cond.methodLink RL 48 yX2_count, Cond.instanceMethod yX2_count, Cond.selects RX2 yX2_count yX2_count, Cond.initialized RX2, Cond.code yX2_count cX2_count 2 (some .int), Cond.classLink RX2 54 "java/lang/IndexOutOfBoundsException", Cond.initialized "java/lang/IndexOutOfBoundsException", Cond.fieldLink RX2 21 "GlassHarp" "now" "LGlassHarp$Orchestra;", Cond.fieldLink RX2 10 "GlassHarp" "score" "LGlassHarp$Score;", Cond.methodLink RX2 28 yX2_isWithin, Cond.static yX2_isWithin, Cond.code yX2_isWithin cX2_isWithin 3 (some .boolean), Cond.instanceMethod yX0_crackedGlasses, Cond.initialized RX0, Cond.selects RX0 yX0_crackedGlasses yX0_crackedGlasses, Cond.code yX0_crackedGlasses cX0_crackedGlasses 3 (some .int), Cond.fieldLink RX0 40 "GlassHarp$Orchestra" "glasses" "I", Cond.fieldLink RX0 21 "GlassHarp$Orchestra" "cracked" "[Z", Cond.instanceMethod yX0_allAir, Cond.selects RX0 yX0_allAir yX0_allAir, Cond.code yX0_allAir cX0_allAir 3 (some .int), Cond.fieldLink RX0 34 "GlassHarp$Orchestra" "air" "[I", Cond.instanceMethod yX0_pairsBeating]
def wsL_count_r2 : List Cond := [Cond.selects RX0 yX0_pairsBeating yX0_pairsBeating, Cond.code yX0_pairsBeating cX0_pairsBeating 3 (some .int), Cond.methodLink RX0 100 yX0_glassesBeatingAgainst, Cond.instanceMethod yX0_glassesBeatingAgainst, Cond.selects RX0 yX0_glassesBeatingAgainst yX0_glassesBeatingAgainst, Cond.code yX0_glassesBeatingAgainst cX0_glassesBeatingAgainst 4 (some .int), Cond.methodLink RX0 97 yX0_beatAgainst, Cond.instanceMethod yX0_beatAgainst, Cond.selects RX0 yX0_beatAgainst yX0_beatAgainst, Cond.code yX0_beatAgainst cX0_beatAgainst 3 (some .boolean), Cond.fieldLink RX0 25 "GlassHarp$Orchestra" "rings" "[I", Cond.methodLink RX0 64 yX0_hasGlass, Cond.instanceMethod yX0_hasGlass, Cond.selects RX0 yX0_hasGlass yX0_hasGlass, Cond.code yX0_hasGlass cX0_hasGlass 2 (some .boolean), Cond.methodLink RX0 91 yX0_toneOf, Cond.instanceMethod yX0_toneOf, Cond.selects RX0 yX0_toneOf yX0_toneOf, Cond.code yX0_toneOf cX0_toneOf 4 (some .int), Cond.fieldLink RX0 15 "GlassHarp$Orchestra" "sizes" "[I", Cond.fieldLink RX0 18 "GlassHarp$Orchestra" "drops" "[I", Cond.methodLink RX0 75 Lib.Math.max.name, Cond.static Lib.Math.max.name, Cond.initialized "java/lang/Math"]
def wsL_count_r3 : List Cond := [Cond.code Lib.Math.max.name Lib.Math.max.code 2 (some .int), Cond.methodLink RX0 68 yX0_dropsPerTone, Cond.static yX0_dropsPerTone, Cond.code yX0_dropsPerTone cX0_dropsPerTone 1 (some .int), Cond.methodLink RX0 72 yX0_emptyTone, Cond.static yX0_emptyTone, Cond.code yX0_emptyTone cX0_emptyTone 1 (some .int), Cond.static yX2_distance, Cond.code yX2_distance cX2_distance 2 (some .int)]
def wsL_count : List Cond := .codeWith yL_count cL_count 4 (some .int) [(0, 9, 12, 21)] :: ((wsL_count_r1 ++ (wsL_count_r2 ++ wsL_count_r3)) ++ wsX20 ++ wsX00 ++ wsX10 ++ (vx_atS RX2 58 "java/lang/IndexOutOfBoundsException" ["java/lang/RuntimeException", "java/lang/Exception"]).filter goodWord)
def wsL_needs_r1 : List Cond := [Cond.classLink RL 21 "java/lang/IndexOutOfBoundsException", Cond.classLink RL 13 "java/lang/IllegalArgumentException", Cond.methodLink RL 51 yX2_needs, Cond.instanceMethod yX2_needs, Cond.selects RX2 yX2_needs yX2_needs, Cond.initialized RX2, Cond.code yX2_needs cX2_needs 3 (some .int), Cond.classLink RX2 54 "java/lang/IndexOutOfBoundsException", Cond.initialized "java/lang/IndexOutOfBoundsException", Cond.classLink RX2 32 "java/lang/IllegalArgumentException", Cond.initialized "java/lang/IllegalArgumentException", Cond.fieldLink RX2 21 "GlassHarp" "now" "LGlassHarp$Orchestra;", Cond.instanceMethod yX0_hasGlass, Cond.initialized RX0, Cond.selects RX0 yX0_hasGlass yX0_hasGlass, Cond.code yX0_hasGlass cX0_hasGlass 2 (some .boolean), Cond.fieldLink RX0 40 "GlassHarp$Orchestra" "glasses" "I", Cond.methodLink RX2 28 yX2_isWithin, Cond.static yX2_isWithin, Cond.code yX2_isWithin cX2_isWithin 3 (some .boolean), Cond.instanceMethod yX0_fewestDropsFor, Cond.selects RX0 yX0_fewestDropsFor yX0_fewestDropsFor, Cond.code yX0_fewestDropsFor cX0_fewestDropsFor 5 (some .int), Cond.fieldLink RX0 15 "GlassHarp$Orchestra" "sizes" "[I"]
def wsL_needs_r2 : List Cond := [Cond.methodLink RX0 64 yX0_hasGlass, Cond.methodLink RX0 68 yX0_dropsPerTone, Cond.static yX0_dropsPerTone, Cond.code yX0_dropsPerTone cX0_dropsPerTone 1 (some .int), Cond.methodLink RX0 72 yX0_emptyTone, Cond.static yX0_emptyTone, Cond.code yX0_emptyTone cX0_emptyTone 1 (some .int), Cond.methodLink RX0 81 yX0_mostDrops, Cond.instanceMethod yX0_mostDrops, Cond.selects RX0 yX0_mostDrops yX0_mostDrops, Cond.code yX0_mostDrops cX0_mostDrops 2 (some .int)]
def wsL_needs : List Cond := .codeWith yL_needs cL_needs 5 (some .int) [(0, 10, 13, 21), (0, 10, 17, 13)] :: ((wsL_needs_r1 ++ wsL_needs_r2) ++ wsX20 ++ wsX00 ++ (vx_atS RX2 58 "java/lang/IndexOutOfBoundsException" ["java/lang/RuntimeException", "java/lang/Exception"]).filter goodWord ++ (vx_atS RX2 36 "java/lang/IllegalArgumentException" ["java/lang/RuntimeException", "java/lang/Exception"]).filter goodWord)
def wsL_foresee_r1 : List Cond := [Cond.classLink RL 13 "java/lang/IllegalArgumentException", Cond.classLink RL 21 "java/lang/IndexOutOfBoundsException", Cond.methodLink RL 54 yX2_foresee, Cond.instanceMethod yX2_foresee, Cond.selects RX2 yX2_foresee yX2_foresee, Cond.initialized RX2, Cond.code yX2_foresee cX2_foresee 3 (some .int), Cond.classLink RX2 32 "java/lang/IllegalArgumentException", Cond.initialized "java/lang/IllegalArgumentException", Cond.classLink RX2 54 "java/lang/IndexOutOfBoundsException", Cond.initialized "java/lang/IndexOutOfBoundsException", Cond.fieldLink RX2 25 "GlassHarp" "trial" "LGlassHarp$Orchestra;", Cond.fieldLink RX2 21 "GlassHarp" "now" "LGlassHarp$Orchestra;", Cond.methodLink RX2 28 yX2_isWithin, Cond.static yX2_isWithin, Cond.code yX2_isWithin cX2_isWithin 3 (some .boolean), Cond.instanceMethod yX0_takeOver, Cond.initialized RX0, Cond.selects RX0 yX0_takeOver yX0_takeOver, Cond.code yX0_takeOver cX0_takeOver 3 none, Cond.fieldLink RX0 40 "GlassHarp$Orchestra" "glasses" "I", Cond.fieldLink RX0 9 "GlassHarp$Orchestra" "rows" "[I", Cond.fieldLink RX0 15 "GlassHarp$Orchestra" "sizes" "[I", Cond.fieldLink RX0 18 "GlassHarp$Orchestra" "drops" "[I"]
def wsL_foresee_r2 : List Cond := [Cond.fieldLink RX0 21 "GlassHarp$Orchestra" "cracked" "[Z", Cond.fieldLink RX0 25 "GlassHarp$Orchestra" "rings" "[I", Cond.fieldLink RX0 28 "GlassHarp$Orchestra" "plays" "[I", Cond.fieldLink RX0 34 "GlassHarp$Orchestra" "air" "[I", Cond.fieldLink RX0 37 "GlassHarp$Orchestra" "pumps" "[I", Cond.fieldLink RX0 44 "GlassHarp$Orchestra" "beat" "I", Cond.fieldLink RX0 47 "GlassHarp$Orchestra" "played" "I", Cond.fieldLink RX0 50 "GlassHarp$Orchestra" "inTune" "I", Cond.fieldLink RX0 53 "GlassHarp$Orchestra" "missed" "I", Cond.instanceMethod yX0_letGoBy, Cond.selects RX0 yX0_letGoBy yX0_letGoBy, Cond.code yX0_letGoBy cX0_letGoBy 3 none, Cond.methodLink RX0 103 yX0_fillBellows, Cond.instanceMethod yX0_fillBellows, Cond.selects RX0 yX0_fillBellows yX0_fillBellows, Cond.code yX0_fillBellows cX0_fillBellows 2 none, Cond.methodLink RX0 112 Lib.Math.min.name, Cond.static Lib.Math.min.name, Cond.initialized "java/lang/Math", Cond.code Lib.Math.min.name Lib.Math.min.code 2 (some .int), Cond.methodLink RX0 106 yX0_playNotes, Cond.instanceMethod yX0_playNotes, Cond.selects RX0 yX0_playNotes yX0_playNotes, Cond.code yX0_playNotes cX0_playNotes 4 none]
def wsL_foresee_r3 : List Cond := [Cond.fieldLink RX0 31 "GlassHarp$Orchestra" "busy" "[Z", Cond.fieldLink RX0 56 "GlassHarp$Orchestra" "score" "LGlassHarp$Score;", Cond.instanceMethod yX1_beatAt, Cond.initialized RX1, Cond.selects RX1 yX1_beatAt yX1_beatAt, Cond.code yX1_beatAt cX1_beatAt 2 (some .int), Cond.fieldLink RX1 25 "GlassHarp$Score" "length" "I", Cond.methodLink RX0 132 yX0_playerFor, Cond.instanceMethod yX0_playerFor, Cond.selects RX0 yX0_playerFor yX0_playerFor, Cond.code yX0_playerFor cX0_playerFor 7 (some .int), Cond.methodLink RX0 139 yX0_hasAir, Cond.instanceMethod yX0_hasAir, Cond.selects RX0 yX0_hasAir yX0_hasAir, Cond.code yX0_hasAir cX0_hasAir 3 (some .boolean), Cond.methodLink RX0 91 yX0_toneOf, Cond.instanceMethod yX0_toneOf, Cond.selects RX0 yX0_toneOf yX0_toneOf, Cond.code yX0_toneOf cX0_toneOf 4 (some .int), Cond.methodLink RX0 75 Lib.Math.max.name, Cond.static Lib.Math.max.name, Cond.code Lib.Math.max.name Lib.Math.max.code 2 (some .int), Cond.methodLink RX0 64 yX0_hasGlass, Cond.instanceMethod yX0_hasGlass]
def wsL_foresee_r4 : List Cond := [Cond.selects RX0 yX0_hasGlass yX0_hasGlass, Cond.code yX0_hasGlass cX0_hasGlass 2 (some .boolean), Cond.methodLink RX0 68 yX0_dropsPerTone, Cond.static yX0_dropsPerTone, Cond.code yX0_dropsPerTone cX0_dropsPerTone 1 (some .int), Cond.methodLink RX0 72 yX0_emptyTone, Cond.static yX0_emptyTone, Cond.code yX0_emptyTone cX0_emptyTone 1 (some .int), Cond.static yX2_distance, Cond.code yX2_distance cX2_distance 2 (some .int), Cond.methodLink RX0 135 yX0_rub, Cond.instanceMethod yX0_rub, Cond.selects RX0 yX0_rub yX0_rub, Cond.code yX0_rub cX0_rub 5 none, Cond.methodLink RX0 109 yX0_fadeAndDry, Cond.instanceMethod yX0_fadeAndDry, Cond.selects RX0 yX0_fadeAndDry yX0_fadeAndDry, Cond.code yX0_fadeAndDry cX0_fadeAndDry 3 none, Cond.instanceMethod yX0_crackedGlasses, Cond.selects RX0 yX0_crackedGlasses yX0_crackedGlasses, Cond.code yX0_crackedGlasses cX0_crackedGlasses 3 (some .int)]
def wsL_foresee : List Cond := .codeWith yL_foresee cL_foresee 5 (some .int) [(0, 10, 13, 13), (0, 10, 17, 21)] :: ((wsL_foresee_r1 ++ (wsL_foresee_r2 ++ (wsL_foresee_r3 ++ wsL_foresee_r4))) ++ wsX20 ++ wsX00 ++ wsX10 ++ (vx_atS RX2 36 "java/lang/IllegalArgumentException" ["java/lang/RuntimeException", "java/lang/Exception"]).filter goodWord ++ (vx_atS RX2 58 "java/lang/IndexOutOfBoundsException" ["java/lang/RuntimeException", "java/lang/Exception"]).filter goodWord)
def wsL_advise_r1 : List Cond := [Cond.classLink RL 13 "java/lang/IllegalArgumentException", Cond.methodLink RL 57 yX2_advise, Cond.instanceMethod yX2_advise, Cond.selects RX2 yX2_advise yX2_advise, Cond.initialized RX2, Cond.code yX2_advise cX2_advise 7 (some .int), Cond.classLink RX2 32 "java/lang/IllegalArgumentException", Cond.initialized "java/lang/IllegalArgumentException", Cond.fieldLink RX2 25 "GlassHarp" "trial" "LGlassHarp$Orchestra;", Cond.fieldLink RX2 21 "GlassHarp" "now" "LGlassHarp$Orchestra;", Cond.methodLink RX2 28 yX2_isWithin, Cond.static yX2_isWithin, Cond.code yX2_isWithin cX2_isWithin 3 (some .boolean), Cond.instanceMethod yX0_takeOver, Cond.initialized RX0, Cond.selects RX0 yX0_takeOver yX0_takeOver, Cond.code yX0_takeOver cX0_takeOver 3 none, Cond.fieldLink RX0 40 "GlassHarp$Orchestra" "glasses" "I", Cond.fieldLink RX0 9 "GlassHarp$Orchestra" "rows" "[I", Cond.fieldLink RX0 15 "GlassHarp$Orchestra" "sizes" "[I", Cond.fieldLink RX0 18 "GlassHarp$Orchestra" "drops" "[I", Cond.fieldLink RX0 21 "GlassHarp$Orchestra" "cracked" "[Z", Cond.fieldLink RX0 25 "GlassHarp$Orchestra" "rings" "[I", Cond.fieldLink RX0 28 "GlassHarp$Orchestra" "plays" "[I"]
def wsL_advise_r2 : List Cond := [Cond.fieldLink RX0 34 "GlassHarp$Orchestra" "air" "[I", Cond.fieldLink RX0 37 "GlassHarp$Orchestra" "pumps" "[I", Cond.fieldLink RX0 44 "GlassHarp$Orchestra" "beat" "I", Cond.fieldLink RX0 47 "GlassHarp$Orchestra" "played" "I", Cond.fieldLink RX0 50 "GlassHarp$Orchestra" "inTune" "I", Cond.fieldLink RX0 53 "GlassHarp$Orchestra" "missed" "I", Cond.instanceMethod yX0_letGoBy, Cond.selects RX0 yX0_letGoBy yX0_letGoBy, Cond.code yX0_letGoBy cX0_letGoBy 3 none, Cond.methodLink RX0 103 yX0_fillBellows, Cond.instanceMethod yX0_fillBellows, Cond.selects RX0 yX0_fillBellows yX0_fillBellows, Cond.code yX0_fillBellows cX0_fillBellows 2 none, Cond.methodLink RX0 112 Lib.Math.min.name, Cond.static Lib.Math.min.name, Cond.initialized "java/lang/Math", Cond.code Lib.Math.min.name Lib.Math.min.code 2 (some .int), Cond.methodLink RX0 106 yX0_playNotes, Cond.instanceMethod yX0_playNotes, Cond.selects RX0 yX0_playNotes yX0_playNotes, Cond.code yX0_playNotes cX0_playNotes 4 none, Cond.fieldLink RX0 31 "GlassHarp$Orchestra" "busy" "[Z", Cond.fieldLink RX0 56 "GlassHarp$Orchestra" "score" "LGlassHarp$Score;", Cond.instanceMethod yX1_beatAt]
def wsL_advise_r3 : List Cond := [Cond.initialized RX1, Cond.selects RX1 yX1_beatAt yX1_beatAt, Cond.code yX1_beatAt cX1_beatAt 2 (some .int), Cond.fieldLink RX1 25 "GlassHarp$Score" "length" "I", Cond.methodLink RX0 132 yX0_playerFor, Cond.instanceMethod yX0_playerFor, Cond.selects RX0 yX0_playerFor yX0_playerFor, Cond.code yX0_playerFor cX0_playerFor 7 (some .int), Cond.methodLink RX0 139 yX0_hasAir, Cond.instanceMethod yX0_hasAir, Cond.selects RX0 yX0_hasAir yX0_hasAir, Cond.code yX0_hasAir cX0_hasAir 3 (some .boolean), Cond.methodLink RX0 91 yX0_toneOf, Cond.instanceMethod yX0_toneOf, Cond.selects RX0 yX0_toneOf yX0_toneOf, Cond.code yX0_toneOf cX0_toneOf 4 (some .int), Cond.methodLink RX0 75 Lib.Math.max.name, Cond.static Lib.Math.max.name, Cond.code Lib.Math.max.name Lib.Math.max.code 2 (some .int), Cond.methodLink RX0 64 yX0_hasGlass, Cond.instanceMethod yX0_hasGlass, Cond.selects RX0 yX0_hasGlass yX0_hasGlass, Cond.code yX0_hasGlass cX0_hasGlass 2 (some .boolean), Cond.methodLink RX0 68 yX0_dropsPerTone]
def wsL_advise_r4 : List Cond := [Cond.static yX0_dropsPerTone, Cond.code yX0_dropsPerTone cX0_dropsPerTone 1 (some .int), Cond.methodLink RX0 72 yX0_emptyTone, Cond.static yX0_emptyTone, Cond.code yX0_emptyTone cX0_emptyTone 1 (some .int), Cond.static yX2_distance, Cond.code yX2_distance cX2_distance 2 (some .int), Cond.methodLink RX0 135 yX0_rub, Cond.instanceMethod yX0_rub, Cond.selects RX0 yX0_rub yX0_rub, Cond.code yX0_rub cX0_rub 5 none, Cond.methodLink RX0 109 yX0_fadeAndDry, Cond.instanceMethod yX0_fadeAndDry, Cond.selects RX0 yX0_fadeAndDry yX0_fadeAndDry, Cond.code yX0_fadeAndDry cX0_fadeAndDry 3 none, Cond.instanceMethod yX0_canBeTuned, Cond.selects RX0 yX0_canBeTuned yX0_canBeTuned, Cond.code yX0_canBeTuned cX0_canBeTuned 3 (some .boolean), Cond.methodLink RX0 84 yX0_fewestDropsFor, Cond.instanceMethod yX0_fewestDropsFor, Cond.selects RX0 yX0_fewestDropsFor yX0_fewestDropsFor, Cond.code yX0_fewestDropsFor cX0_fewestDropsFor 5 (some .int), Cond.methodLink RX0 81 yX0_mostDrops, Cond.instanceMethod yX0_mostDrops]
def wsL_advise_r5 : List Cond := [Cond.selects RX0 yX0_mostDrops yX0_mostDrops, Cond.code yX0_mostDrops cX0_mostDrops 2 (some .int), Cond.methodLink RX2 202 yX2_inTuneIfTuned, Cond.instanceMethod yX2_inTuneIfTuned, Cond.selects RX2 yX2_inTuneIfTuned yX2_inTuneIfTuned, Cond.code yX2_inTuneIfTuned cX2_inTuneIfTuned 4 (some .int), Cond.instanceMethod yX0_tuneTo, Cond.selects RX0 yX0_tuneTo yX0_tuneTo, Cond.code yX0_tuneTo cX0_tuneTo 3 none, Cond.methodLink RX0 87 yX0_canBeTuned]
def wsL_advise : List Cond := .codeWith yL_advise cL_advise 5 (some .int) [(0, 10, 13, 13)] :: ((wsL_advise_r1 ++ (wsL_advise_r2 ++ (wsL_advise_r3 ++ (wsL_advise_r4 ++ wsL_advise_r5)))) ++ wsX20 ++ wsX00 ++ wsX10 ++ (vx_atS RX2 36 "java/lang/IllegalArgumentException" ["java/lang/RuntimeException", "java/lang/Exception"]).filter goodWord)
def wsL_wants_r1 : List Cond := [Cond.classLink RL 21 "java/lang/IndexOutOfBoundsException", Cond.classLink RL 13 "java/lang/IllegalArgumentException", Cond.methodLink RL 60 yX2_wants, Cond.instanceMethod yX2_wants, Cond.selects RX2 yX2_wants yX2_wants, Cond.initialized RX2, Cond.code yX2_wants cX2_wants 5 (some .int), Cond.classLink RX2 54 "java/lang/IndexOutOfBoundsException", Cond.initialized "java/lang/IndexOutOfBoundsException", Cond.classLink RX2 32 "java/lang/IllegalArgumentException", Cond.initialized "java/lang/IllegalArgumentException", Cond.methodLink RX2 28 yX2_isWithin, Cond.static yX2_isWithin, Cond.code yX2_isWithin cX2_isWithin 3 (some .boolean), Cond.methodLink RX2 205 yX2_missedIfPumped, Cond.instanceMethod yX2_missedIfPumped, Cond.selects RX2 yX2_missedIfPumped yX2_missedIfPumped, Cond.code yX2_missedIfPumped cX2_missedIfPumped 4 (some .int), Cond.fieldLink RX2 25 "GlassHarp" "trial" "LGlassHarp$Orchestra;", Cond.fieldLink RX2 21 "GlassHarp" "now" "LGlassHarp$Orchestra;", Cond.instanceMethod yX0_takeOver, Cond.initialized RX0, Cond.selects RX0 yX0_takeOver yX0_takeOver, Cond.code yX0_takeOver cX0_takeOver 3 none]
def wsL_wants_r2 : List Cond := [Cond.fieldLink RX0 40 "GlassHarp$Orchestra" "glasses" "I", Cond.fieldLink RX0 9 "GlassHarp$Orchestra" "rows" "[I", Cond.fieldLink RX0 15 "GlassHarp$Orchestra" "sizes" "[I", Cond.fieldLink RX0 18 "GlassHarp$Orchestra" "drops" "[I", Cond.fieldLink RX0 21 "GlassHarp$Orchestra" "cracked" "[Z", Cond.fieldLink RX0 25 "GlassHarp$Orchestra" "rings" "[I", Cond.fieldLink RX0 28 "GlassHarp$Orchestra" "plays" "[I", Cond.fieldLink RX0 34 "GlassHarp$Orchestra" "air" "[I", Cond.fieldLink RX0 37 "GlassHarp$Orchestra" "pumps" "[I", Cond.fieldLink RX0 44 "GlassHarp$Orchestra" "beat" "I", Cond.fieldLink RX0 47 "GlassHarp$Orchestra" "played" "I", Cond.fieldLink RX0 50 "GlassHarp$Orchestra" "inTune" "I", Cond.fieldLink RX0 53 "GlassHarp$Orchestra" "missed" "I", Cond.instanceMethod yX0_setPump, Cond.selects RX0 yX0_setPump yX0_setPump, Cond.code yX0_setPump cX0_setPump 3 none, Cond.instanceMethod yX0_letGoBy, Cond.selects RX0 yX0_letGoBy yX0_letGoBy, Cond.code yX0_letGoBy cX0_letGoBy 3 none, Cond.methodLink RX0 103 yX0_fillBellows, Cond.instanceMethod yX0_fillBellows, Cond.selects RX0 yX0_fillBellows yX0_fillBellows, Cond.code yX0_fillBellows cX0_fillBellows 2 none, Cond.methodLink RX0 112 Lib.Math.min.name]
def wsL_wants_r3 : List Cond := [Cond.static Lib.Math.min.name, Cond.initialized "java/lang/Math", Cond.code Lib.Math.min.name Lib.Math.min.code 2 (some .int), Cond.methodLink RX0 106 yX0_playNotes, Cond.instanceMethod yX0_playNotes, Cond.selects RX0 yX0_playNotes yX0_playNotes, Cond.code yX0_playNotes cX0_playNotes 4 none, Cond.fieldLink RX0 31 "GlassHarp$Orchestra" "busy" "[Z", Cond.fieldLink RX0 56 "GlassHarp$Orchestra" "score" "LGlassHarp$Score;", Cond.instanceMethod yX1_beatAt, Cond.initialized RX1, Cond.selects RX1 yX1_beatAt yX1_beatAt, Cond.code yX1_beatAt cX1_beatAt 2 (some .int), Cond.fieldLink RX1 25 "GlassHarp$Score" "length" "I", Cond.methodLink RX0 132 yX0_playerFor, Cond.instanceMethod yX0_playerFor, Cond.selects RX0 yX0_playerFor yX0_playerFor, Cond.code yX0_playerFor cX0_playerFor 7 (some .int), Cond.methodLink RX0 139 yX0_hasAir, Cond.instanceMethod yX0_hasAir, Cond.selects RX0 yX0_hasAir yX0_hasAir, Cond.code yX0_hasAir cX0_hasAir 3 (some .boolean), Cond.methodLink RX0 91 yX0_toneOf, Cond.instanceMethod yX0_toneOf]
def wsL_wants_r4 : List Cond := [Cond.selects RX0 yX0_toneOf yX0_toneOf, Cond.code yX0_toneOf cX0_toneOf 4 (some .int), Cond.methodLink RX0 75 Lib.Math.max.name, Cond.static Lib.Math.max.name, Cond.code Lib.Math.max.name Lib.Math.max.code 2 (some .int), Cond.methodLink RX0 64 yX0_hasGlass, Cond.instanceMethod yX0_hasGlass, Cond.selects RX0 yX0_hasGlass yX0_hasGlass, Cond.code yX0_hasGlass cX0_hasGlass 2 (some .boolean), Cond.methodLink RX0 68 yX0_dropsPerTone, Cond.static yX0_dropsPerTone, Cond.code yX0_dropsPerTone cX0_dropsPerTone 1 (some .int), Cond.methodLink RX0 72 yX0_emptyTone, Cond.static yX0_emptyTone, Cond.code yX0_emptyTone cX0_emptyTone 1 (some .int), Cond.static yX2_distance, Cond.code yX2_distance cX2_distance 2 (some .int), Cond.methodLink RX0 135 yX0_rub, Cond.instanceMethod yX0_rub, Cond.selects RX0 yX0_rub yX0_rub, Cond.code yX0_rub cX0_rub 5 none, Cond.methodLink RX0 109 yX0_fadeAndDry, Cond.instanceMethod yX0_fadeAndDry, Cond.selects RX0 yX0_fadeAndDry yX0_fadeAndDry]
def wsL_wants_r5 : List Cond := [Cond.code yX0_fadeAndDry cX0_fadeAndDry 3 none]
def wsL_wants : List Cond := .codeWith yL_wants cL_wants 5 (some .int) [(0, 10, 13, 21), (0, 10, 17, 13)] :: ((wsL_wants_r1 ++ (wsL_wants_r2 ++ (wsL_wants_r3 ++ (wsL_wants_r4 ++ wsL_wants_r5)))) ++ wsX20 ++ wsX00 ++ wsX10 ++ (vx_atS RX2 58 "java/lang/IndexOutOfBoundsException" ["java/lang/RuntimeException", "java/lang/Exception"]).filter goodWord ++ (vx_atS RX2 36 "java/lang/IllegalArgumentException" ["java/lang/RuntimeException", "java/lang/Exception"]).filter goodWord)
abbrev vwCl : List vw_C := [(RX0, TX0, 15), (RX1, TX1, 5), (RX2, TX2, 3), (RX3, TX3, 12), (RX4, TX4, 9)]
end
section
theorem dX0_init_0 : decode cX0_init 0 = .ok (.aload_n 0, 1) := by decide +kernel
theorem dX0_init_1 : decode cX0_init 1 = .ok (.invokespecial 3, 3) := by decide +kernel
theorem dX0_init_4 : decode cX0_init 4 = .ok (.aload_n 0, 1) := by decide +kernel
theorem dX0_init_5 : decode cX0_init 5 = .ok (.bipush 16, 2) := by decide +kernel
theorem dX0_init_7 : decode cX0_init 7 = .ok (.newarray .int, 2) := by decide +kernel
theorem dX0_init_9 : decode cX0_init 9 = .ok (.putfield 9, 3) := by decide +kernel
theorem dX0_init_12 : decode cX0_init 12 = .ok (.aload_n 0, 1) := by decide +kernel
theorem dX0_init_13 : decode cX0_init 13 = .ok (.bipush 16, 2) := by decide +kernel
theorem dX0_init_15 : decode cX0_init 15 = .ok (.newarray .int, 2) := by decide +kernel
theorem dX0_init_17 : decode cX0_init 17 = .ok (.putfield 15, 3) := by decide +kernel
theorem dX0_init_20 : decode cX0_init 20 = .ok (.aload_n 0, 1) := by decide +kernel
theorem dX0_init_21 : decode cX0_init 21 = .ok (.bipush 16, 2) := by decide +kernel
theorem dX0_init_23 : decode cX0_init 23 = .ok (.newarray .int, 2) := by decide +kernel
theorem dX0_init_25 : decode cX0_init 25 = .ok (.putfield 18, 3) := by decide +kernel
theorem dX0_init_28 : decode cX0_init 28 = .ok (.aload_n 0, 1) := by decide +kernel
theorem dX0_init_29 : decode cX0_init 29 = .ok (.bipush 16, 2) := by decide +kernel
theorem dX0_init_31 : decode cX0_init 31 = .ok (.newarray .boolean, 2) := by decide +kernel
theorem dX0_init_33 : decode cX0_init 33 = .ok (.putfield 21, 3) := by decide +kernel
theorem dX0_init_36 : decode cX0_init 36 = .ok (.aload_n 0, 1) := by decide +kernel
theorem dX0_init_37 : decode cX0_init 37 = .ok (.bipush 16, 2) := by decide +kernel
theorem dX0_init_39 : decode cX0_init 39 = .ok (.newarray .int, 2) := by decide +kernel
theorem dX0_init_41 : decode cX0_init 41 = .ok (.putfield 25, 3) := by decide +kernel
theorem dX0_init_44 : decode cX0_init 44 = .ok (.aload_n 0, 1) := by decide +kernel
theorem dX0_init_45 : decode cX0_init 45 = .ok (.bipush 16, 2) := by decide +kernel
theorem dX0_init_47 : decode cX0_init 47 = .ok (.newarray .int, 2) := by decide +kernel
theorem dX0_init_49 : decode cX0_init 49 = .ok (.putfield 28, 3) := by decide +kernel
theorem dX0_init_52 : decode cX0_init 52 = .ok (.aload_n 0, 1) := by decide +kernel
theorem dX0_init_53 : decode cX0_init 53 = .ok (.bipush 16, 2) := by decide +kernel
theorem dX0_init_55 : decode cX0_init 55 = .ok (.newarray .boolean, 2) := by decide +kernel
theorem dX0_init_57 : decode cX0_init 57 = .ok (.putfield 31, 3) := by decide +kernel
theorem dX0_init_60 : decode cX0_init 60 = .ok (.aload_n 0, 1) := by decide +kernel
theorem dX0_init_61 : decode cX0_init 61 = .ok (.iconst 4, 1) := by decide +kernel
theorem dX0_init_62 : decode cX0_init 62 = .ok (.newarray .int, 2) := by decide +kernel
theorem dX0_init_64 : decode cX0_init 64 = .ok (.putfield 34, 3) := by decide +kernel
theorem dX0_init_67 : decode cX0_init 67 = .ok (.aload_n 0, 1) := by decide +kernel
theorem dX0_init_68 : decode cX0_init 68 = .ok (.iconst 4, 1) := by decide +kernel
theorem dX0_init_69 : decode cX0_init 69 = .ok (.newarray .int, 2) := by decide +kernel
theorem dX0_init_71 : decode cX0_init 71 = .ok (.putfield 37, 3) := by decide +kernel
theorem dX0_init_74 : decode cX0_init 74 = .ok (.aload_n 0, 1) := by decide +kernel
theorem dX0_init_75 : decode cX0_init 75 = .ok (.iconst 0, 1) := by decide +kernel
theorem dX0_init_76 : decode cX0_init 76 = .ok (.putfield 40, 3) := by decide +kernel
theorem dX0_init_79 : decode cX0_init 79 = .ok (.aload_n 0, 1) := by decide +kernel
theorem dX0_init_80 : decode cX0_init 80 = .ok (.iconst 0, 1) := by decide +kernel
theorem dX0_init_81 : decode cX0_init 81 = .ok (.putfield 44, 3) := by decide +kernel
theorem dX0_init_84 : decode cX0_init 84 = .ok (.aload_n 0, 1) := by decide +kernel
theorem dX0_init_85 : decode cX0_init 85 = .ok (.iconst 0, 1) := by decide +kernel
theorem dX0_init_86 : decode cX0_init 86 = .ok (.putfield 47, 3) := by decide +kernel
theorem dX0_init_89 : decode cX0_init 89 = .ok (.aload_n 0, 1) := by decide +kernel
theorem dX0_init_90 : decode cX0_init 90 = .ok (.iconst 0, 1) := by decide +kernel
theorem dX0_init_91 : decode cX0_init 91 = .ok (.putfield 50, 3) := by decide +kernel
theorem dX0_init_94 : decode cX0_init 94 = .ok (.aload_n 0, 1) := by decide +kernel
theorem dX0_init_95 : decode cX0_init 95 = .ok (.iconst 0, 1) := by decide +kernel
theorem dX0_init_96 : decode cX0_init 96 = .ok (.putfield 53, 3) := by decide +kernel
theorem dX0_init_99 : decode cX0_init 99 = .ok (.aload_n 0, 1) := by decide +kernel
theorem dX0_init_100 : decode cX0_init 100 = .ok (.aload_n 1, 1) := by decide +kernel
theorem dX0_init_101 : decode cX0_init 101 = .ok (.putfield 56, 3) := by decide +kernel
theorem dX0_init_104 : decode cX0_init 104 = .ok (.iconst 0, 1) := by decide +kernel
theorem dX0_init_105 : decode cX0_init 105 = .ok (.istore_n 2, 1) := by decide +kernel
theorem dX0_init_106 : decode cX0_init 106 = .ok (.iload_n 2, 1) := by decide +kernel
theorem dX0_init_107 : decode cX0_init 107 = .ok (.iconst 4, 1) := by decide +kernel
theorem dX0_init_108 : decode cX0_init 108 = .ok (.if_icmp .ge 24, 3) := by decide +kernel
theorem dX0_init_111 : decode cX0_init 111 = .ok (.aload_n 0, 1) := by decide +kernel
theorem dX0_init_112 : decode cX0_init 112 = .ok (.getfield 34, 3) := by decide +kernel
theorem dX0_init_115 : decode cX0_init 115 = .ok (.iload_n 2, 1) := by decide +kernel
theorem dX0_init_116 : decode cX0_init 116 = .ok (.bipush 30, 2) := by decide +kernel
theorem dX0_init_118 : decode cX0_init 118 = .ok (.iastore, 1) := by decide +kernel
theorem dX0_init_119 : decode cX0_init 119 = .ok (.aload_n 0, 1) := by decide +kernel
theorem dX0_init_120 : decode cX0_init 120 = .ok (.getfield 37, 3) := by decide +kernel
theorem dX0_init_123 : decode cX0_init 123 = .ok (.iload_n 2, 1) := by decide +kernel
theorem dX0_init_124 : decode cX0_init 124 = .ok (.iconst 3, 1) := by decide +kernel
theorem dX0_init_125 : decode cX0_init 125 = .ok (.iastore, 1) := by decide +kernel
theorem dX0_init_126 : decode cX0_init 126 = .ok (.iinc 2 1, 3) := by decide +kernel
theorem dX0_init_129 : decode cX0_init 129 = .ok (.goto (-23), 3) := by decide +kernel
theorem dX0_init_132 : decode cX0_init 132 = .ok (.return_, 1) := by decide +kernel
theorem dX0_takeOver_0 : decode cX0_takeOver 0 = .ok (.iconst 0, 1) := by decide +kernel
theorem dX0_takeOver_1 : decode cX0_takeOver 1 = .ok (.istore_n 2, 1) := by decide +kernel
theorem dX0_takeOver_2 : decode cX0_takeOver 2 = .ok (.iload_n 2, 1) := by decide +kernel
theorem dX0_takeOver_3 : decode cX0_takeOver 3 = .ok (.aload_n 1, 1) := by decide +kernel
theorem dX0_takeOver_4 : decode cX0_takeOver 4 = .ok (.getfield 40, 3) := by decide +kernel
theorem dX0_takeOver_7 : decode cX0_takeOver 7 = .ok (.if_icmp .ge 81, 3) := by decide +kernel
theorem dX0_takeOver_10 : decode cX0_takeOver 10 = .ok (.aload_n 0, 1) := by decide +kernel
theorem dX0_takeOver_11 : decode cX0_takeOver 11 = .ok (.getfield 9, 3) := by decide +kernel
theorem dX0_takeOver_14 : decode cX0_takeOver 14 = .ok (.iload_n 2, 1) := by decide +kernel
theorem dX0_takeOver_15 : decode cX0_takeOver 15 = .ok (.aload_n 1, 1) := by decide +kernel
theorem dX0_takeOver_16 : decode cX0_takeOver 16 = .ok (.getfield 9, 3) := by decide +kernel
theorem dX0_takeOver_19 : decode cX0_takeOver 19 = .ok (.iload_n 2, 1) := by decide +kernel
theorem dX0_takeOver_20 : decode cX0_takeOver 20 = .ok (.iaload, 1) := by decide +kernel
theorem dX0_takeOver_21 : decode cX0_takeOver 21 = .ok (.iastore, 1) := by decide +kernel
theorem dX0_takeOver_22 : decode cX0_takeOver 22 = .ok (.aload_n 0, 1) := by decide +kernel
theorem dX0_takeOver_23 : decode cX0_takeOver 23 = .ok (.getfield 15, 3) := by decide +kernel
theorem dX0_takeOver_26 : decode cX0_takeOver 26 = .ok (.iload_n 2, 1) := by decide +kernel
theorem dX0_takeOver_27 : decode cX0_takeOver 27 = .ok (.aload_n 1, 1) := by decide +kernel
theorem dX0_takeOver_28 : decode cX0_takeOver 28 = .ok (.getfield 15, 3) := by decide +kernel
theorem dX0_takeOver_31 : decode cX0_takeOver 31 = .ok (.iload_n 2, 1) := by decide +kernel
theorem dX0_takeOver_32 : decode cX0_takeOver 32 = .ok (.iaload, 1) := by decide +kernel
theorem dX0_takeOver_33 : decode cX0_takeOver 33 = .ok (.iastore, 1) := by decide +kernel
theorem dX0_takeOver_34 : decode cX0_takeOver 34 = .ok (.aload_n 0, 1) := by decide +kernel
theorem dX0_takeOver_35 : decode cX0_takeOver 35 = .ok (.getfield 18, 3) := by decide +kernel
theorem dX0_takeOver_38 : decode cX0_takeOver 38 = .ok (.iload_n 2, 1) := by decide +kernel
theorem dX0_takeOver_39 : decode cX0_takeOver 39 = .ok (.aload_n 1, 1) := by decide +kernel
theorem dX0_takeOver_40 : decode cX0_takeOver 40 = .ok (.getfield 18, 3) := by decide +kernel
theorem dX0_takeOver_43 : decode cX0_takeOver 43 = .ok (.iload_n 2, 1) := by decide +kernel
theorem dX0_takeOver_44 : decode cX0_takeOver 44 = .ok (.iaload, 1) := by decide +kernel
theorem dX0_takeOver_45 : decode cX0_takeOver 45 = .ok (.iastore, 1) := by decide +kernel
theorem dX0_takeOver_46 : decode cX0_takeOver 46 = .ok (.aload_n 0, 1) := by decide +kernel
theorem dX0_takeOver_47 : decode cX0_takeOver 47 = .ok (.getfield 21, 3) := by decide +kernel
theorem dX0_takeOver_50 : decode cX0_takeOver 50 = .ok (.iload_n 2, 1) := by decide +kernel
theorem dX0_takeOver_51 : decode cX0_takeOver 51 = .ok (.aload_n 1, 1) := by decide +kernel
theorem dX0_takeOver_52 : decode cX0_takeOver 52 = .ok (.getfield 21, 3) := by decide +kernel
theorem dX0_takeOver_55 : decode cX0_takeOver 55 = .ok (.iload_n 2, 1) := by decide +kernel
theorem dX0_takeOver_56 : decode cX0_takeOver 56 = .ok (.baload, 1) := by decide +kernel
theorem dX0_takeOver_57 : decode cX0_takeOver 57 = .ok (.bastore, 1) := by decide +kernel
theorem dX0_takeOver_58 : decode cX0_takeOver 58 = .ok (.aload_n 0, 1) := by decide +kernel
theorem dX0_takeOver_59 : decode cX0_takeOver 59 = .ok (.getfield 25, 3) := by decide +kernel
theorem dX0_takeOver_62 : decode cX0_takeOver 62 = .ok (.iload_n 2, 1) := by decide +kernel
theorem dX0_takeOver_63 : decode cX0_takeOver 63 = .ok (.aload_n 1, 1) := by decide +kernel
theorem dX0_takeOver_64 : decode cX0_takeOver 64 = .ok (.getfield 25, 3) := by decide +kernel
theorem dX0_takeOver_67 : decode cX0_takeOver 67 = .ok (.iload_n 2, 1) := by decide +kernel
theorem dX0_takeOver_68 : decode cX0_takeOver 68 = .ok (.iaload, 1) := by decide +kernel
theorem dX0_takeOver_69 : decode cX0_takeOver 69 = .ok (.iastore, 1) := by decide +kernel
theorem dX0_takeOver_70 : decode cX0_takeOver 70 = .ok (.aload_n 0, 1) := by decide +kernel
theorem dX0_takeOver_71 : decode cX0_takeOver 71 = .ok (.getfield 28, 3) := by decide +kernel
theorem dX0_takeOver_74 : decode cX0_takeOver 74 = .ok (.iload_n 2, 1) := by decide +kernel
theorem dX0_takeOver_75 : decode cX0_takeOver 75 = .ok (.aload_n 1, 1) := by decide +kernel
theorem dX0_takeOver_76 : decode cX0_takeOver 76 = .ok (.getfield 28, 3) := by decide +kernel
theorem dX0_takeOver_79 : decode cX0_takeOver 79 = .ok (.iload_n 2, 1) := by decide +kernel
theorem dX0_takeOver_80 : decode cX0_takeOver 80 = .ok (.iaload, 1) := by decide +kernel
theorem dX0_takeOver_81 : decode cX0_takeOver 81 = .ok (.iastore, 1) := by decide +kernel
theorem dX0_takeOver_82 : decode cX0_takeOver 82 = .ok (.iinc 2 1, 3) := by decide +kernel
theorem dX0_takeOver_85 : decode cX0_takeOver 85 = .ok (.goto (-83), 3) := by decide +kernel
theorem dX0_takeOver_88 : decode cX0_takeOver 88 = .ok (.iconst 0, 1) := by decide +kernel
theorem dX0_takeOver_89 : decode cX0_takeOver 89 = .ok (.istore_n 2, 1) := by decide +kernel
theorem dX0_takeOver_90 : decode cX0_takeOver 90 = .ok (.iload_n 2, 1) := by decide +kernel
theorem dX0_takeOver_91 : decode cX0_takeOver 91 = .ok (.iconst 4, 1) := by decide +kernel
theorem dX0_takeOver_92 : decode cX0_takeOver 92 = .ok (.if_icmp .ge 33, 3) := by decide +kernel
theorem dX0_takeOver_95 : decode cX0_takeOver 95 = .ok (.aload_n 0, 1) := by decide +kernel
theorem dX0_takeOver_96 : decode cX0_takeOver 96 = .ok (.getfield 34, 3) := by decide +kernel
theorem dX0_takeOver_99 : decode cX0_takeOver 99 = .ok (.iload_n 2, 1) := by decide +kernel
theorem dX0_takeOver_100 : decode cX0_takeOver 100 = .ok (.aload_n 1, 1) := by decide +kernel
theorem dX0_takeOver_101 : decode cX0_takeOver 101 = .ok (.getfield 34, 3) := by decide +kernel
theorem dX0_takeOver_104 : decode cX0_takeOver 104 = .ok (.iload_n 2, 1) := by decide +kernel
theorem dX0_takeOver_105 : decode cX0_takeOver 105 = .ok (.iaload, 1) := by decide +kernel
theorem dX0_takeOver_106 : decode cX0_takeOver 106 = .ok (.iastore, 1) := by decide +kernel
theorem dX0_takeOver_107 : decode cX0_takeOver 107 = .ok (.aload_n 0, 1) := by decide +kernel
theorem dX0_takeOver_108 : decode cX0_takeOver 108 = .ok (.getfield 37, 3) := by decide +kernel
theorem dX0_takeOver_111 : decode cX0_takeOver 111 = .ok (.iload_n 2, 1) := by decide +kernel
theorem dX0_takeOver_112 : decode cX0_takeOver 112 = .ok (.aload_n 1, 1) := by decide +kernel
theorem dX0_takeOver_113 : decode cX0_takeOver 113 = .ok (.getfield 37, 3) := by decide +kernel
theorem dX0_takeOver_116 : decode cX0_takeOver 116 = .ok (.iload_n 2, 1) := by decide +kernel
theorem dX0_takeOver_117 : decode cX0_takeOver 117 = .ok (.iaload, 1) := by decide +kernel
theorem dX0_takeOver_118 : decode cX0_takeOver 118 = .ok (.iastore, 1) := by decide +kernel
theorem dX0_takeOver_119 : decode cX0_takeOver 119 = .ok (.iinc 2 1, 3) := by decide +kernel
theorem dX0_takeOver_122 : decode cX0_takeOver 122 = .ok (.goto (-32), 3) := by decide +kernel
theorem dX0_takeOver_125 : decode cX0_takeOver 125 = .ok (.aload_n 0, 1) := by decide +kernel
theorem dX0_takeOver_126 : decode cX0_takeOver 126 = .ok (.aload_n 1, 1) := by decide +kernel
theorem dX0_takeOver_127 : decode cX0_takeOver 127 = .ok (.getfield 40, 3) := by decide +kernel
theorem dX0_takeOver_130 : decode cX0_takeOver 130 = .ok (.putfield 40, 3) := by decide +kernel
theorem dX0_takeOver_133 : decode cX0_takeOver 133 = .ok (.aload_n 0, 1) := by decide +kernel
theorem dX0_takeOver_134 : decode cX0_takeOver 134 = .ok (.aload_n 1, 1) := by decide +kernel
theorem dX0_takeOver_135 : decode cX0_takeOver 135 = .ok (.getfield 44, 3) := by decide +kernel
theorem dX0_takeOver_138 : decode cX0_takeOver 138 = .ok (.putfield 44, 3) := by decide +kernel
theorem dX0_takeOver_141 : decode cX0_takeOver 141 = .ok (.aload_n 0, 1) := by decide +kernel
theorem dX0_takeOver_142 : decode cX0_takeOver 142 = .ok (.aload_n 1, 1) := by decide +kernel
theorem dX0_takeOver_143 : decode cX0_takeOver 143 = .ok (.getfield 47, 3) := by decide +kernel
theorem dX0_takeOver_146 : decode cX0_takeOver 146 = .ok (.putfield 47, 3) := by decide +kernel
theorem dX0_takeOver_149 : decode cX0_takeOver 149 = .ok (.aload_n 0, 1) := by decide +kernel
theorem dX0_takeOver_150 : decode cX0_takeOver 150 = .ok (.aload_n 1, 1) := by decide +kernel
theorem dX0_takeOver_151 : decode cX0_takeOver 151 = .ok (.getfield 50, 3) := by decide +kernel
theorem dX0_takeOver_154 : decode cX0_takeOver 154 = .ok (.putfield 50, 3) := by decide +kernel
theorem dX0_takeOver_157 : decode cX0_takeOver 157 = .ok (.aload_n 0, 1) := by decide +kernel
theorem dX0_takeOver_158 : decode cX0_takeOver 158 = .ok (.aload_n 1, 1) := by decide +kernel
theorem dX0_takeOver_159 : decode cX0_takeOver 159 = .ok (.getfield 53, 3) := by decide +kernel
theorem dX0_takeOver_162 : decode cX0_takeOver 162 = .ok (.putfield 53, 3) := by decide +kernel
theorem dX0_takeOver_165 : decode cX0_takeOver 165 = .ok (.return_, 1) := by decide +kernel
theorem dX0_hasGlass_0 : decode cX0_hasGlass 0 = .ok (.iload_n 1, 1) := by decide +kernel
theorem dX0_hasGlass_1 : decode cX0_hasGlass 1 = .ok (.ifCond .lt 15, 3) := by decide +kernel
theorem dX0_hasGlass_4 : decode cX0_hasGlass 4 = .ok (.iload_n 1, 1) := by decide +kernel
theorem dX0_hasGlass_5 : decode cX0_hasGlass 5 = .ok (.aload_n 0, 1) := by decide +kernel
theorem dX0_hasGlass_6 : decode cX0_hasGlass 6 = .ok (.getfield 40, 3) := by decide +kernel
theorem dX0_hasGlass_9 : decode cX0_hasGlass 9 = .ok (.if_icmp .ge 7, 3) := by decide +kernel
theorem dX0_hasGlass_12 : decode cX0_hasGlass 12 = .ok (.iconst 1, 1) := by decide +kernel
theorem dX0_hasGlass_13 : decode cX0_hasGlass 13 = .ok (.goto 4, 3) := by decide +kernel
theorem dX0_hasGlass_16 : decode cX0_hasGlass 16 = .ok (.iconst 0, 1) := by decide +kernel
theorem dX0_hasGlass_17 : decode cX0_hasGlass 17 = .ok (.ireturn, 1) := by decide +kernel
theorem dX0_addGlass_0 : decode cX0_addGlass 0 = .ok (.aload_n 0, 1) := by decide +kernel
theorem dX0_addGlass_1 : decode cX0_addGlass 1 = .ok (.getfield 40, 3) := by decide +kernel
theorem dX0_addGlass_4 : decode cX0_addGlass 4 = .ok (.bipush 16, 2) := by decide +kernel
theorem dX0_addGlass_6 : decode cX0_addGlass 6 = .ok (.if_icmp .lt 5, 3) := by decide +kernel
theorem dX0_addGlass_9 : decode cX0_addGlass 9 = .ok (.iconst (-1), 1) := by decide +kernel
theorem dX0_addGlass_10 : decode cX0_addGlass 10 = .ok (.ireturn, 1) := by decide +kernel
theorem dX0_addGlass_11 : decode cX0_addGlass 11 = .ok (.aload_n 0, 1) := by decide +kernel
theorem dX0_addGlass_12 : decode cX0_addGlass 12 = .ok (.getfield 40, 3) := by decide +kernel
theorem dX0_addGlass_15 : decode cX0_addGlass 15 = .ok (.istore 4, 2) := by decide +kernel
theorem dX0_addGlass_17 : decode cX0_addGlass 17 = .ok (.aload_n 0, 1) := by decide +kernel
theorem dX0_addGlass_18 : decode cX0_addGlass 18 = .ok (.getfield 9, 3) := by decide +kernel
theorem dX0_addGlass_21 : decode cX0_addGlass 21 = .ok (.iload 4, 2) := by decide +kernel
theorem dX0_addGlass_23 : decode cX0_addGlass 23 = .ok (.iload_n 1, 1) := by decide +kernel
theorem dX0_addGlass_24 : decode cX0_addGlass 24 = .ok (.iastore, 1) := by decide +kernel
theorem dX0_addGlass_25 : decode cX0_addGlass 25 = .ok (.aload_n 0, 1) := by decide +kernel
theorem dX0_addGlass_26 : decode cX0_addGlass 26 = .ok (.getfield 15, 3) := by decide +kernel
theorem dX0_addGlass_29 : decode cX0_addGlass 29 = .ok (.iload 4, 2) := by decide +kernel
theorem dX0_addGlass_31 : decode cX0_addGlass 31 = .ok (.iload_n 2, 1) := by decide +kernel
theorem dX0_addGlass_32 : decode cX0_addGlass 32 = .ok (.iastore, 1) := by decide +kernel
theorem dX0_addGlass_33 : decode cX0_addGlass 33 = .ok (.aload_n 0, 1) := by decide +kernel
theorem dX0_addGlass_34 : decode cX0_addGlass 34 = .ok (.getfield 18, 3) := by decide +kernel
theorem dX0_addGlass_37 : decode cX0_addGlass 37 = .ok (.iload 4, 2) := by decide +kernel
theorem dX0_addGlass_39 : decode cX0_addGlass 39 = .ok (.iload_n 3, 1) := by decide +kernel
theorem dX0_addGlass_40 : decode cX0_addGlass 40 = .ok (.iastore, 1) := by decide +kernel
theorem dX0_addGlass_41 : decode cX0_addGlass 41 = .ok (.aload_n 0, 1) := by decide +kernel
theorem dX0_addGlass_42 : decode cX0_addGlass 42 = .ok (.dup, 1) := by decide +kernel
theorem dX0_addGlass_43 : decode cX0_addGlass 43 = .ok (.getfield 40, 3) := by decide +kernel
theorem dX0_addGlass_46 : decode cX0_addGlass 46 = .ok (.iconst 1, 1) := by decide +kernel
theorem dX0_addGlass_47 : decode cX0_addGlass 47 = .ok (.iadd, 1) := by decide +kernel
theorem dX0_addGlass_48 : decode cX0_addGlass 48 = .ok (.putfield 40, 3) := by decide +kernel
theorem dX0_addGlass_51 : decode cX0_addGlass 51 = .ok (.iload 4, 2) := by decide +kernel
theorem dX0_addGlass_53 : decode cX0_addGlass 53 = .ok (.ireturn, 1) := by decide +kernel
set_option maxRecDepth 20000 in
theorem ggX0_setPump_X2_isWithin : GoodIn wsX0_setPump wsX2_isWithin := goodIn_r _ [4] (by decide +kernel) (by decide +kernel)
set_option maxRecDepth 20000 in
theorem gX0_setPump_X2_isWithin_n60 : GoodIn wsX0_setPump (wsX2_isWithin) := ggX0_setPump_X2_isWithin
theorem dX0_setPump_0 : decode cX0_setPump 0 = .ok (.iload_n 1, 1) := by decide +kernel
theorem dX0_setPump_1 : decode cX0_setPump 1 = .ok (.iconst 0, 1) := by decide +kernel
theorem dX0_setPump_2 : decode cX0_setPump 2 = .ok (.iconst 3, 1) := by decide +kernel
theorem dX0_setPump_3 : decode cX0_setPump 3 = .ok (.invokestatic 60, 3) := by decide +kernel
theorem dX0_setPump_6 : decode cX0_setPump 6 = .ok (.ifCond .eq 10, 3) := by decide +kernel
theorem dX0_setPump_9 : decode cX0_setPump 9 = .ok (.aload_n 0, 1) := by decide +kernel
theorem dX0_setPump_10 : decode cX0_setPump 10 = .ok (.getfield 37, 3) := by decide +kernel
theorem dX0_setPump_13 : decode cX0_setPump 13 = .ok (.iload_n 1, 1) := by decide +kernel
theorem dX0_setPump_14 : decode cX0_setPump 14 = .ok (.iload_n 2, 1) := by decide +kernel
theorem dX0_setPump_15 : decode cX0_setPump 15 = .ok (.iastore, 1) := by decide +kernel
theorem dX0_setPump_16 : decode cX0_setPump 16 = .ok (.return_, 1) := by decide +kernel
set_option maxRecDepth 20000 in
theorem ggX0_mostDrops_X0_hasGlass : GoodIn wsX0_mostDrops wsX0_hasGlass := goodIn_r _ [6, 7, 8, 9, 10, 11, 12, 13, 14, 15, 16, 17, 18, 19, 20, 21, 22] (by decide +kernel) (by decide +kernel)
set_option maxRecDepth 20000 in
theorem gX0_mostDrops_X0_hasGlass : GoodIn wsX0_mostDrops (wsV RX0 64 RX0 yX0_hasGlass wsX0_hasGlass) := goodIn_app (goodIn_of _ (by decide +kernel)) ggX0_mostDrops_X0_hasGlass
theorem dX0_mostDrops_0 : decode cX0_mostDrops 0 = .ok (.aload_n 0, 1) := by decide +kernel
theorem dX0_mostDrops_1 : decode cX0_mostDrops 1 = .ok (.iload_n 1, 1) := by decide +kernel
theorem dX0_mostDrops_2 : decode cX0_mostDrops 2 = .ok (.invokevirtual 64, 3) := by decide +kernel
theorem dX0_mostDrops_5 : decode cX0_mostDrops 5 = .ok (.ifCond .eq 15, 3) := by decide +kernel
theorem dX0_mostDrops_8 : decode cX0_mostDrops 8 = .ok (.bipush 100, 2) := by decide +kernel
theorem dX0_mostDrops_10 : decode cX0_mostDrops 10 = .ok (.aload_n 0, 1) := by decide +kernel
theorem dX0_mostDrops_11 : decode cX0_mostDrops 11 = .ok (.getfield 15, 3) := by decide +kernel
theorem dX0_mostDrops_14 : decode cX0_mostDrops 14 = .ok (.iload_n 1, 1) := by decide +kernel
theorem dX0_mostDrops_15 : decode cX0_mostDrops 15 = .ok (.iaload, 1) := by decide +kernel
theorem dX0_mostDrops_16 : decode cX0_mostDrops 16 = .ok (.imul, 1) := by decide +kernel
theorem dX0_mostDrops_17 : decode cX0_mostDrops 17 = .ok (.goto 4, 3) := by decide +kernel
theorem dX0_mostDrops_20 : decode cX0_mostDrops 20 = .ok (.iconst 0, 1) := by decide +kernel
theorem dX0_mostDrops_21 : decode cX0_mostDrops 21 = .ok (.ireturn, 1) := by decide +kernel
theorem dX0_emptyTone_0 : decode cX0_emptyTone 0 = .ok (.bipush 120, 2) := by decide +kernel
theorem dX0_emptyTone_2 : decode cX0_emptyTone 2 = .ok (.bipush 8, 2) := by decide +kernel
theorem dX0_emptyTone_4 : decode cX0_emptyTone 4 = .ok (.iload_n 0, 1) := by decide +kernel
theorem dX0_emptyTone_5 : decode cX0_emptyTone 5 = .ok (.imul, 1) := by decide +kernel
theorem dX0_emptyTone_6 : decode cX0_emptyTone 6 = .ok (.isub, 1) := by decide +kernel
theorem dX0_emptyTone_7 : decode cX0_emptyTone 7 = .ok (.ireturn, 1) := by decide +kernel
theorem dX0_dropsPerTone_0 : decode cX0_dropsPerTone 0 = .ok (.iconst 4, 1) := by decide +kernel
theorem dX0_dropsPerTone_1 : decode cX0_dropsPerTone 1 = .ok (.iload_n 0, 1) := by decide +kernel
theorem dX0_dropsPerTone_2 : decode cX0_dropsPerTone 2 = .ok (.imul, 1) := by decide +kernel
theorem dX0_dropsPerTone_3 : decode cX0_dropsPerTone 3 = .ok (.ireturn, 1) := by decide +kernel
set_option maxRecDepth 20000 in
theorem ggX0_toneOf_X0_hasGlass : GoodIn wsX0_toneOf wsX0_hasGlass := goodIn_r _ [11, 12, 19, 20, 21, 22, 23, 24, 25, 26, 27, 28, 29, 30, 31, 32, 33] (by decide +kernel) (by decide +kernel)
set_option maxRecDepth 20000 in
theorem gX0_toneOf_X0_hasGlass : GoodIn wsX0_toneOf (wsV RX0 64 RX0 yX0_hasGlass wsX0_hasGlass) := goodIn_app (goodIn_of _ (by decide +kernel)) ggX0_toneOf_X0_hasGlass
set_option maxRecDepth 20000 in
theorem ggX0_toneOf_X0_dropsPerTone : GoodIn wsX0_toneOf wsX0_dropsPerTone := goodIn_r _ [15] (by decide +kernel) (by decide +kernel)
set_option maxRecDepth 20000 in
theorem gX0_toneOf_X0_dropsPerTone : GoodIn wsX0_toneOf (va_wsS RX0 68 yX0_dropsPerTone wsX0_dropsPerTone) := goodIn_app (goodIn_of _ (by decide +kernel)) ggX0_toneOf_X0_dropsPerTone
set_option maxRecDepth 20000 in
theorem ggX0_toneOf_X0_emptyTone : GoodIn wsX0_toneOf wsX0_emptyTone := goodIn_r _ [18] (by decide +kernel) (by decide +kernel)
set_option maxRecDepth 20000 in
theorem gX0_toneOf_X0_emptyTone : GoodIn wsX0_toneOf (va_wsS RX0 72 yX0_emptyTone wsX0_emptyTone) := goodIn_app (goodIn_of _ (by decide +kernel)) ggX0_toneOf_X0_emptyTone
theorem dX0_toneOf_0 : decode cX0_toneOf 0 = .ok (.aload_n 0, 1) := by decide +kernel
theorem dX0_toneOf_1 : decode cX0_toneOf 1 = .ok (.iload_n 1, 1) := by decide +kernel
theorem dX0_toneOf_2 : decode cX0_toneOf 2 = .ok (.invokevirtual 64, 3) := by decide +kernel
theorem dX0_toneOf_5 : decode cX0_toneOf 5 = .ok (.ifCond .ne 5, 3) := by decide +kernel
theorem dX0_toneOf_8 : decode cX0_toneOf 8 = .ok (.iconst 0, 1) := by decide +kernel
theorem dX0_toneOf_9 : decode cX0_toneOf 9 = .ok (.ireturn, 1) := by decide +kernel
theorem dX0_toneOf_10 : decode cX0_toneOf 10 = .ok (.aload_n 0, 1) := by decide +kernel
theorem dX0_toneOf_11 : decode cX0_toneOf 11 = .ok (.getfield 15, 3) := by decide +kernel
theorem dX0_toneOf_14 : decode cX0_toneOf 14 = .ok (.iload_n 1, 1) := by decide +kernel
theorem dX0_toneOf_15 : decode cX0_toneOf 15 = .ok (.iaload, 1) := by decide +kernel
theorem dX0_toneOf_16 : decode cX0_toneOf 16 = .ok (.invokestatic 68, 3) := by decide +kernel
theorem dX0_toneOf_19 : decode cX0_toneOf 19 = .ok (.istore_n 2, 1) := by decide +kernel
theorem dX0_toneOf_20 : decode cX0_toneOf 20 = .ok (.iload_n 2, 1) := by decide +kernel
theorem dX0_toneOf_21 : decode cX0_toneOf 21 = .ok (.ifCond .le 14, 3) := by decide +kernel
theorem dX0_toneOf_24 : decode cX0_toneOf 24 = .ok (.aload_n 0, 1) := by decide +kernel
theorem dX0_toneOf_25 : decode cX0_toneOf 25 = .ok (.getfield 18, 3) := by decide +kernel
theorem dX0_toneOf_28 : decode cX0_toneOf 28 = .ok (.iload_n 1, 1) := by decide +kernel
theorem dX0_toneOf_29 : decode cX0_toneOf 29 = .ok (.iaload, 1) := by decide +kernel
theorem dX0_toneOf_30 : decode cX0_toneOf 30 = .ok (.iload_n 2, 1) := by decide +kernel
theorem dX0_toneOf_31 : decode cX0_toneOf 31 = .ok (.idiv, 1) := by decide +kernel
theorem dX0_toneOf_32 : decode cX0_toneOf 32 = .ok (.goto 4, 3) := by decide +kernel
theorem dX0_toneOf_35 : decode cX0_toneOf 35 = .ok (.iconst 0, 1) := by decide +kernel
theorem dX0_toneOf_36 : decode cX0_toneOf 36 = .ok (.istore_n 3, 1) := by decide +kernel
theorem dX0_toneOf_37 : decode cX0_toneOf 37 = .ok (.iconst 0, 1) := by decide +kernel
theorem dX0_toneOf_38 : decode cX0_toneOf 38 = .ok (.aload_n 0, 1) := by decide +kernel
theorem dX0_toneOf_39 : decode cX0_toneOf 39 = .ok (.getfield 15, 3) := by decide +kernel
theorem dX0_toneOf_42 : decode cX0_toneOf 42 = .ok (.iload_n 1, 1) := by decide +kernel
theorem dX0_toneOf_43 : decode cX0_toneOf 43 = .ok (.iaload, 1) := by decide +kernel
theorem dX0_toneOf_44 : decode cX0_toneOf 44 = .ok (.invokestatic 72, 3) := by decide +kernel
theorem dX0_toneOf_47 : decode cX0_toneOf 47 = .ok (.iload_n 3, 1) := by decide +kernel
theorem dX0_toneOf_48 : decode cX0_toneOf 48 = .ok (.isub, 1) := by decide +kernel
theorem dX0_toneOf_49 : decode cX0_toneOf 49 = .ok (.invokestatic 75, 3) := by decide +kernel
theorem dX0_toneOf_52 : decode cX0_toneOf 52 = .ok (.ireturn, 1) := by decide +kernel
set_option maxRecDepth 20000 in
theorem ggX0_fewestDropsFor_X0_hasGlass : GoodIn wsX0_fewestDropsFor wsX0_hasGlass := goodIn_r _ [6, 7, 21, 22, 23, 24, 25, 26, 27, 28, 29, 30, 31, 32, 33, 34, 35] (by decide +kernel) (by decide +kernel)
set_option maxRecDepth 20000 in
theorem gX0_fewestDropsFor_X0_hasGlass : GoodIn wsX0_fewestDropsFor (wsV RX0 64 RX0 yX0_hasGlass wsX0_hasGlass) := goodIn_app (goodIn_of _ (by decide +kernel)) ggX0_fewestDropsFor_X0_hasGlass
set_option maxRecDepth 20000 in
theorem ggX0_fewestDropsFor_X0_dropsPerTone : GoodIn wsX0_fewestDropsFor wsX0_dropsPerTone := goodIn_r _ [10] (by decide +kernel) (by decide +kernel)
set_option maxRecDepth 20000 in
theorem gX0_fewestDropsFor_X0_dropsPerTone : GoodIn wsX0_fewestDropsFor (va_wsS RX0 68 yX0_dropsPerTone wsX0_dropsPerTone) := goodIn_app (goodIn_of _ (by decide +kernel)) ggX0_fewestDropsFor_X0_dropsPerTone
set_option maxRecDepth 20000 in
theorem ggX0_fewestDropsFor_X0_emptyTone : GoodIn wsX0_fewestDropsFor wsX0_emptyTone := goodIn_r _ [13] (by decide +kernel) (by decide +kernel)
set_option maxRecDepth 20000 in
theorem gX0_fewestDropsFor_X0_emptyTone : GoodIn wsX0_fewestDropsFor (va_wsS RX0 72 yX0_emptyTone wsX0_emptyTone) := goodIn_app (goodIn_of _ (by decide +kernel)) ggX0_fewestDropsFor_X0_emptyTone
set_option maxRecDepth 20000 in
theorem ggX0_fewestDropsFor_X0_mostDrops : GoodIn wsX0_fewestDropsFor wsX0_mostDrops := goodIn_r _ [17, 1, 2, 3, 4, 5, 6, 7, 21, 22, 23, 24, 25, 26, 27, 28, 29, 30, 31, 32, 33, 34, 35] (by decide +kernel) (by decide +kernel)
set_option maxRecDepth 20000 in
theorem gX0_fewestDropsFor_X0_mostDrops : GoodIn wsX0_fewestDropsFor (wsV RX0 81 RX0 yX0_mostDrops wsX0_mostDrops) := goodIn_app (goodIn_of _ (by decide +kernel)) ggX0_fewestDropsFor_X0_mostDrops
set_option maxRecDepth 20000 in
theorem ggX0_fewestDropsFor_X2_isWithin : GoodIn wsX0_fewestDropsFor wsX2_isWithin := goodIn_r _ [20] (by decide +kernel) (by decide +kernel)
set_option maxRecDepth 20000 in
theorem gX0_fewestDropsFor_X2_isWithin_n60 : GoodIn wsX0_fewestDropsFor (wsX2_isWithin) := ggX0_fewestDropsFor_X2_isWithin
theorem dX0_fewestDropsFor_0 : decode cX0_fewestDropsFor 0 = .ok (.aload_n 0, 1) := by decide +kernel
theorem dX0_fewestDropsFor_1 : decode cX0_fewestDropsFor 1 = .ok (.iload_n 1, 1) := by decide +kernel
theorem dX0_fewestDropsFor_2 : decode cX0_fewestDropsFor 2 = .ok (.invokevirtual 64, 3) := by decide +kernel
theorem dX0_fewestDropsFor_5 : decode cX0_fewestDropsFor 5 = .ok (.ifCond .ne 5, 3) := by decide +kernel
theorem dX0_fewestDropsFor_8 : decode cX0_fewestDropsFor 8 = .ok (.iconst (-1), 1) := by decide +kernel
theorem dX0_fewestDropsFor_9 : decode cX0_fewestDropsFor 9 = .ok (.ireturn, 1) := by decide +kernel
theorem dX0_fewestDropsFor_10 : decode cX0_fewestDropsFor 10 = .ok (.aload_n 0, 1) := by decide +kernel
theorem dX0_fewestDropsFor_11 : decode cX0_fewestDropsFor 11 = .ok (.getfield 15, 3) := by decide +kernel
theorem dX0_fewestDropsFor_14 : decode cX0_fewestDropsFor 14 = .ok (.iload_n 1, 1) := by decide +kernel
theorem dX0_fewestDropsFor_15 : decode cX0_fewestDropsFor 15 = .ok (.iaload, 1) := by decide +kernel
theorem dX0_fewestDropsFor_16 : decode cX0_fewestDropsFor 16 = .ok (.istore_n 3, 1) := by decide +kernel
theorem dX0_fewestDropsFor_17 : decode cX0_fewestDropsFor 17 = .ok (.iload_n 3, 1) := by decide +kernel
theorem dX0_fewestDropsFor_18 : decode cX0_fewestDropsFor 18 = .ok (.invokestatic 68, 3) := by decide +kernel
theorem dX0_fewestDropsFor_21 : decode cX0_fewestDropsFor 21 = .ok (.iload_n 3, 1) := by decide +kernel
theorem dX0_fewestDropsFor_22 : decode cX0_fewestDropsFor 22 = .ok (.invokestatic 72, 3) := by decide +kernel
theorem dX0_fewestDropsFor_25 : decode cX0_fewestDropsFor 25 = .ok (.iload_n 2, 1) := by decide +kernel
theorem dX0_fewestDropsFor_26 : decode cX0_fewestDropsFor 26 = .ok (.isub, 1) := by decide +kernel
theorem dX0_fewestDropsFor_27 : decode cX0_fewestDropsFor 27 = .ok (.imul, 1) := by decide +kernel
theorem dX0_fewestDropsFor_28 : decode cX0_fewestDropsFor 28 = .ok (.istore 4, 2) := by decide +kernel
theorem dX0_fewestDropsFor_30 : decode cX0_fewestDropsFor 30 = .ok (.iload 4, 2) := by decide +kernel
theorem dX0_fewestDropsFor_32 : decode cX0_fewestDropsFor 32 = .ok (.iconst 0, 1) := by decide +kernel
theorem dX0_fewestDropsFor_33 : decode cX0_fewestDropsFor 33 = .ok (.aload_n 0, 1) := by decide +kernel
theorem dX0_fewestDropsFor_34 : decode cX0_fewestDropsFor 34 = .ok (.iload_n 1, 1) := by decide +kernel
theorem dX0_fewestDropsFor_35 : decode cX0_fewestDropsFor 35 = .ok (.invokevirtual 81, 3) := by decide +kernel
theorem dX0_fewestDropsFor_38 : decode cX0_fewestDropsFor 38 = .ok (.invokestatic 60, 3) := by decide +kernel
theorem dX0_fewestDropsFor_41 : decode cX0_fewestDropsFor 41 = .ok (.ifCond .eq 8, 3) := by decide +kernel
theorem dX0_fewestDropsFor_44 : decode cX0_fewestDropsFor 44 = .ok (.iload 4, 2) := by decide +kernel
theorem dX0_fewestDropsFor_46 : decode cX0_fewestDropsFor 46 = .ok (.goto 4, 3) := by decide +kernel
theorem dX0_fewestDropsFor_49 : decode cX0_fewestDropsFor 49 = .ok (.iconst (-1), 1) := by decide +kernel
theorem dX0_fewestDropsFor_50 : decode cX0_fewestDropsFor 50 = .ok (.ireturn, 1) := by decide +kernel
set_option maxRecDepth 20000 in
theorem ggX0_canBeTuned_X0_hasGlass : GoodIn wsX0_canBeTuned wsX0_hasGlass := goodIn_r _ [6, 7, 26, 27, 28, 29, 30, 31, 32, 33, 34, 35, 36, 37, 38, 39, 40] (by decide +kernel) (by decide +kernel)
set_option maxRecDepth 20000 in
theorem gX0_canBeTuned_X0_hasGlass : GoodIn wsX0_canBeTuned (wsV RX0 64 RX0 yX0_hasGlass wsX0_hasGlass) := goodIn_app (goodIn_of _ (by decide +kernel)) ggX0_canBeTuned_X0_hasGlass
set_option maxRecDepth 20000 in
theorem ggX0_canBeTuned_X0_fewestDropsFor : GoodIn wsX0_canBeTuned wsX0_fewestDropsFor := goodIn_r _ [11, 12, 2, 3, 4, 5, 6, 7, 13, 14, 15, 16, 17, 18, 19, 20, 21, 22, 23, 24, 25, 26, 27, 28, 29, 30, 31, 32, 33, 34, 35, 36, 37, 38, 39, 40] (by decide +kernel) (by decide +kernel)
set_option maxRecDepth 20000 in
theorem gX0_canBeTuned_X0_fewestDropsFor : GoodIn wsX0_canBeTuned (wsV RX0 84 RX0 yX0_fewestDropsFor wsX0_fewestDropsFor) := goodIn_app (goodIn_of _ (by decide +kernel)) ggX0_canBeTuned_X0_fewestDropsFor
theorem dX0_canBeTuned_0 : decode cX0_canBeTuned 0 = .ok (.aload_n 0, 1) := by decide +kernel
theorem dX0_canBeTuned_1 : decode cX0_canBeTuned 1 = .ok (.iload_n 1, 1) := by decide +kernel
theorem dX0_canBeTuned_2 : decode cX0_canBeTuned 2 = .ok (.invokevirtual 64, 3) := by decide +kernel
theorem dX0_canBeTuned_5 : decode cX0_canBeTuned 5 = .ok (.ifCond .eq 26, 3) := by decide +kernel
theorem dX0_canBeTuned_8 : decode cX0_canBeTuned 8 = .ok (.aload_n 0, 1) := by decide +kernel
theorem dX0_canBeTuned_9 : decode cX0_canBeTuned 9 = .ok (.getfield 21, 3) := by decide +kernel
theorem dX0_canBeTuned_12 : decode cX0_canBeTuned 12 = .ok (.iload_n 1, 1) := by decide +kernel
theorem dX0_canBeTuned_13 : decode cX0_canBeTuned 13 = .ok (.baload, 1) := by decide +kernel
theorem dX0_canBeTuned_14 : decode cX0_canBeTuned 14 = .ok (.ifCond .ne 17, 3) := by decide +kernel
theorem dX0_canBeTuned_17 : decode cX0_canBeTuned 17 = .ok (.aload_n 0, 1) := by decide +kernel
theorem dX0_canBeTuned_18 : decode cX0_canBeTuned 18 = .ok (.iload_n 1, 1) := by decide +kernel
theorem dX0_canBeTuned_19 : decode cX0_canBeTuned 19 = .ok (.iload_n 2, 1) := by decide +kernel
theorem dX0_canBeTuned_20 : decode cX0_canBeTuned 20 = .ok (.invokevirtual 84, 3) := by decide +kernel
theorem dX0_canBeTuned_23 : decode cX0_canBeTuned 23 = .ok (.iconst (-1), 1) := by decide +kernel
theorem dX0_canBeTuned_24 : decode cX0_canBeTuned 24 = .ok (.if_icmp .eq 7, 3) := by decide +kernel
theorem dX0_canBeTuned_27 : decode cX0_canBeTuned 27 = .ok (.iconst 1, 1) := by decide +kernel
theorem dX0_canBeTuned_28 : decode cX0_canBeTuned 28 = .ok (.goto 4, 3) := by decide +kernel
theorem dX0_canBeTuned_31 : decode cX0_canBeTuned 31 = .ok (.iconst 0, 1) := by decide +kernel
theorem dX0_canBeTuned_32 : decode cX0_canBeTuned 32 = .ok (.ireturn, 1) := by decide +kernel
set_option maxRecDepth 20000 in
theorem ggX0_tuneTo_X0_canBeTuned : GoodIn wsX0_tuneTo wsX0_canBeTuned := goodIn_r _ [6, 7, 8, 9, 10, 5, 11, 12, 13, 14, 15, 16, 17, 18, 19, 20, 21, 22, 23, 24, 25, 26, 27, 28, 29, 30, 31, 32, 33, 34, 35, 36, 37, 38, 39, 40, 41, 42, 43, 44, 45] (by decide +kernel) (by decide +kernel)
set_option maxRecDepth 20000 in
theorem gX0_tuneTo_X0_canBeTuned : GoodIn wsX0_tuneTo (wsV RX0 87 RX0 yX0_canBeTuned wsX0_canBeTuned) := goodIn_app (goodIn_of _ (by decide +kernel)) ggX0_tuneTo_X0_canBeTuned
set_option maxRecDepth 20000 in
theorem ggX0_tuneTo_X0_fewestDropsFor : GoodIn wsX0_tuneTo wsX0_fewestDropsFor := goodIn_r _ [16, 17, 8, 9, 10, 5, 11, 12, 18, 19, 20, 21, 22, 23, 24, 25, 26, 27, 28, 29, 30, 31, 32, 33, 34, 35, 36, 37, 38, 39, 40, 41, 42, 43, 44, 45] (by decide +kernel) (by decide +kernel)
set_option maxRecDepth 20000 in
theorem gX0_tuneTo_X0_fewestDropsFor : GoodIn wsX0_tuneTo (wsV RX0 84 RX0 yX0_fewestDropsFor wsX0_fewestDropsFor) := goodIn_app (goodIn_of _ (by decide +kernel)) ggX0_tuneTo_X0_fewestDropsFor
theorem dX0_tuneTo_0 : decode cX0_tuneTo 0 = .ok (.aload_n 0, 1) := by decide +kernel
theorem dX0_tuneTo_1 : decode cX0_tuneTo 1 = .ok (.iload_n 1, 1) := by decide +kernel
theorem dX0_tuneTo_2 : decode cX0_tuneTo 2 = .ok (.iload_n 2, 1) := by decide +kernel
theorem dX0_tuneTo_3 : decode cX0_tuneTo 3 = .ok (.invokevirtual 87, 3) := by decide +kernel
theorem dX0_tuneTo_6 : decode cX0_tuneTo 6 = .ok (.ifCond .eq 15, 3) := by decide +kernel
theorem dX0_tuneTo_9 : decode cX0_tuneTo 9 = .ok (.aload_n 0, 1) := by decide +kernel
theorem dX0_tuneTo_10 : decode cX0_tuneTo 10 = .ok (.getfield 18, 3) := by decide +kernel
theorem dX0_tuneTo_13 : decode cX0_tuneTo 13 = .ok (.iload_n 1, 1) := by decide +kernel
theorem dX0_tuneTo_14 : decode cX0_tuneTo 14 = .ok (.aload_n 0, 1) := by decide +kernel
theorem dX0_tuneTo_15 : decode cX0_tuneTo 15 = .ok (.iload_n 1, 1) := by decide +kernel
theorem dX0_tuneTo_16 : decode cX0_tuneTo 16 = .ok (.iload_n 2, 1) := by decide +kernel
theorem dX0_tuneTo_17 : decode cX0_tuneTo 17 = .ok (.invokevirtual 84, 3) := by decide +kernel
theorem dX0_tuneTo_20 : decode cX0_tuneTo 20 = .ok (.iastore, 1) := by decide +kernel
theorem dX0_tuneTo_21 : decode cX0_tuneTo 21 = .ok (.return_, 1) := by decide +kernel
theorem dX0_crackedGlasses_0 : decode cX0_crackedGlasses 0 = .ok (.iconst 0, 1) := by decide +kernel
theorem dX0_crackedGlasses_1 : decode cX0_crackedGlasses 1 = .ok (.istore_n 1, 1) := by decide +kernel
theorem dX0_crackedGlasses_2 : decode cX0_crackedGlasses 2 = .ok (.iconst 0, 1) := by decide +kernel
theorem dX0_crackedGlasses_3 : decode cX0_crackedGlasses 3 = .ok (.istore_n 2, 1) := by decide +kernel
theorem dX0_crackedGlasses_4 : decode cX0_crackedGlasses 4 = .ok (.iload_n 2, 1) := by decide +kernel
theorem dX0_crackedGlasses_5 : decode cX0_crackedGlasses 5 = .ok (.aload_n 0, 1) := by decide +kernel
theorem dX0_crackedGlasses_6 : decode cX0_crackedGlasses 6 = .ok (.getfield 40, 3) := by decide +kernel
theorem dX0_crackedGlasses_9 : decode cX0_crackedGlasses 9 = .ok (.if_icmp .ge 21, 3) := by decide +kernel
theorem dX0_crackedGlasses_12 : decode cX0_crackedGlasses 12 = .ok (.aload_n 0, 1) := by decide +kernel
theorem dX0_crackedGlasses_13 : decode cX0_crackedGlasses 13 = .ok (.getfield 21, 3) := by decide +kernel
theorem dX0_crackedGlasses_16 : decode cX0_crackedGlasses 16 = .ok (.iload_n 2, 1) := by decide +kernel
theorem dX0_crackedGlasses_17 : decode cX0_crackedGlasses 17 = .ok (.baload, 1) := by decide +kernel
theorem dX0_crackedGlasses_18 : decode cX0_crackedGlasses 18 = .ok (.ifCond .eq 6, 3) := by decide +kernel
theorem dX0_crackedGlasses_21 : decode cX0_crackedGlasses 21 = .ok (.iinc 1 1, 3) := by decide +kernel
theorem dX0_crackedGlasses_24 : decode cX0_crackedGlasses 24 = .ok (.iinc 2 1, 3) := by decide +kernel
theorem dX0_crackedGlasses_27 : decode cX0_crackedGlasses 27 = .ok (.goto (-23), 3) := by decide +kernel
theorem dX0_crackedGlasses_30 : decode cX0_crackedGlasses 30 = .ok (.iload_n 1, 1) := by decide +kernel
theorem dX0_crackedGlasses_31 : decode cX0_crackedGlasses 31 = .ok (.ireturn, 1) := by decide +kernel
theorem dX0_glassesInRow_0 : decode cX0_glassesInRow 0 = .ok (.iconst 0, 1) := by decide +kernel
theorem dX0_glassesInRow_1 : decode cX0_glassesInRow 1 = .ok (.istore_n 2, 1) := by decide +kernel
theorem dX0_glassesInRow_2 : decode cX0_glassesInRow 2 = .ok (.iconst 0, 1) := by decide +kernel
theorem dX0_glassesInRow_3 : decode cX0_glassesInRow 3 = .ok (.istore_n 3, 1) := by decide +kernel
theorem dX0_glassesInRow_4 : decode cX0_glassesInRow 4 = .ok (.iload_n 3, 1) := by decide +kernel
theorem dX0_glassesInRow_5 : decode cX0_glassesInRow 5 = .ok (.aload_n 0, 1) := by decide +kernel
theorem dX0_glassesInRow_6 : decode cX0_glassesInRow 6 = .ok (.getfield 40, 3) := by decide +kernel
theorem dX0_glassesInRow_9 : decode cX0_glassesInRow 9 = .ok (.if_icmp .ge 22, 3) := by decide +kernel
theorem dX0_glassesInRow_12 : decode cX0_glassesInRow 12 = .ok (.aload_n 0, 1) := by decide +kernel
theorem dX0_glassesInRow_13 : decode cX0_glassesInRow 13 = .ok (.getfield 9, 3) := by decide +kernel
theorem dX0_glassesInRow_16 : decode cX0_glassesInRow 16 = .ok (.iload_n 3, 1) := by decide +kernel
theorem dX0_glassesInRow_17 : decode cX0_glassesInRow 17 = .ok (.iaload, 1) := by decide +kernel
theorem dX0_glassesInRow_18 : decode cX0_glassesInRow 18 = .ok (.iload_n 1, 1) := by decide +kernel
theorem dX0_glassesInRow_19 : decode cX0_glassesInRow 19 = .ok (.if_icmp .ne 6, 3) := by decide +kernel
theorem dX0_glassesInRow_22 : decode cX0_glassesInRow 22 = .ok (.iinc 2 1, 3) := by decide +kernel
theorem dX0_glassesInRow_25 : decode cX0_glassesInRow 25 = .ok (.iinc 3 1, 3) := by decide +kernel
theorem dX0_glassesInRow_28 : decode cX0_glassesInRow 28 = .ok (.goto (-24), 3) := by decide +kernel
theorem dX0_glassesInRow_31 : decode cX0_glassesInRow 31 = .ok (.iload_n 2, 1) := by decide +kernel
theorem dX0_glassesInRow_32 : decode cX0_glassesInRow 32 = .ok (.ireturn, 1) := by decide +kernel
theorem dX0_allAir_0 : decode cX0_allAir 0 = .ok (.iconst 0, 1) := by decide +kernel
theorem dX0_allAir_1 : decode cX0_allAir 1 = .ok (.istore_n 1, 1) := by decide +kernel
theorem dX0_allAir_2 : decode cX0_allAir 2 = .ok (.iconst 0, 1) := by decide +kernel
theorem dX0_allAir_3 : decode cX0_allAir 3 = .ok (.istore_n 2, 1) := by decide +kernel
theorem dX0_allAir_4 : decode cX0_allAir 4 = .ok (.iload_n 2, 1) := by decide +kernel
theorem dX0_allAir_5 : decode cX0_allAir 5 = .ok (.iconst 4, 1) := by decide +kernel
theorem dX0_allAir_6 : decode cX0_allAir 6 = .ok (.if_icmp .ge 18, 3) := by decide +kernel
theorem dX0_allAir_9 : decode cX0_allAir 9 = .ok (.iload_n 1, 1) := by decide +kernel
theorem dX0_allAir_10 : decode cX0_allAir 10 = .ok (.aload_n 0, 1) := by decide +kernel
theorem dX0_allAir_11 : decode cX0_allAir 11 = .ok (.getfield 34, 3) := by decide +kernel
theorem dX0_allAir_14 : decode cX0_allAir 14 = .ok (.iload_n 2, 1) := by decide +kernel
theorem dX0_allAir_15 : decode cX0_allAir 15 = .ok (.iaload, 1) := by decide +kernel
theorem dX0_allAir_16 : decode cX0_allAir 16 = .ok (.iadd, 1) := by decide +kernel
theorem dX0_allAir_17 : decode cX0_allAir 17 = .ok (.istore_n 1, 1) := by decide +kernel
theorem dX0_allAir_18 : decode cX0_allAir 18 = .ok (.iinc 2 1, 3) := by decide +kernel
theorem dX0_allAir_21 : decode cX0_allAir 21 = .ok (.goto (-17), 3) := by decide +kernel
theorem dX0_allAir_24 : decode cX0_allAir 24 = .ok (.iload_n 1, 1) := by decide +kernel
theorem dX0_allAir_25 : decode cX0_allAir 25 = .ok (.ireturn, 1) := by decide +kernel
set_option maxRecDepth 20000 in
theorem ggX0_beatAgainst_X0_hasGlass : GoodIn wsX0_beatAgainst wsX0_hasGlass := goodIn_r _ [6, 7, 29, 30, 31, 32, 33, 34, 35, 36, 37, 38, 39, 40, 41, 42, 43] (by decide +kernel) (by decide +kernel)
set_option maxRecDepth 20000 in
theorem gX0_beatAgainst_X0_hasGlass : GoodIn wsX0_beatAgainst (wsV RX0 64 RX0 yX0_hasGlass wsX0_hasGlass) := goodIn_app (goodIn_of _ (by decide +kernel)) ggX0_beatAgainst_X0_hasGlass
set_option maxRecDepth 20000 in
theorem ggX0_beatAgainst_X0_toneOf : GoodIn wsX0_beatAgainst wsX0_toneOf := goodIn_r _ [11, 12, 13, 14, 15, 16, 17, 2, 3, 4, 5, 6, 7, 18, 19, 20, 21, 22, 23, 29, 30, 31, 32, 33, 34, 35, 36, 37, 38, 39, 40, 41, 42, 43] (by decide +kernel) (by decide +kernel)
set_option maxRecDepth 20000 in
theorem gX0_beatAgainst_X0_toneOf : GoodIn wsX0_beatAgainst (wsV RX0 91 RX0 yX0_toneOf wsX0_toneOf) := goodIn_app (goodIn_of _ (by decide +kernel)) ggX0_beatAgainst_X0_toneOf
set_option maxRecDepth 20000 in
theorem ggX0_beatAgainst_X2_distance : GoodIn wsX0_beatAgainst wsX2_distance := goodIn_r _ [26] (by decide +kernel) (by decide +kernel)
set_option maxRecDepth 20000 in
theorem gX0_beatAgainst_X2_distance_n94 : GoodIn wsX0_beatAgainst (wsX2_distance) := ggX0_beatAgainst_X2_distance
set_option maxRecDepth 20000 in
theorem ggX0_beatAgainst_X2_isWithin : GoodIn wsX0_beatAgainst wsX2_isWithin := goodIn_r _ [28] (by decide +kernel) (by decide +kernel)
set_option maxRecDepth 20000 in
theorem gX0_beatAgainst_X2_isWithin_n60 : GoodIn wsX0_beatAgainst (wsX2_isWithin) := ggX0_beatAgainst_X2_isWithin
theorem dX0_beatAgainst_0 : decode cX0_beatAgainst 0 = .ok (.aload_n 0, 1) := by decide +kernel
theorem dX0_beatAgainst_1 : decode cX0_beatAgainst 1 = .ok (.iload_n 1, 1) := by decide +kernel
theorem dX0_beatAgainst_2 : decode cX0_beatAgainst 2 = .ok (.invokevirtual 64, 3) := by decide +kernel
theorem dX0_beatAgainst_5 : decode cX0_beatAgainst 5 = .ok (.ifCond .eq 31, 3) := by decide +kernel
theorem dX0_beatAgainst_8 : decode cX0_beatAgainst 8 = .ok (.aload_n 0, 1) := by decide +kernel
theorem dX0_beatAgainst_9 : decode cX0_beatAgainst 9 = .ok (.iload_n 2, 1) := by decide +kernel
theorem dX0_beatAgainst_10 : decode cX0_beatAgainst 10 = .ok (.invokevirtual 64, 3) := by decide +kernel
theorem dX0_beatAgainst_13 : decode cX0_beatAgainst 13 = .ok (.ifCond .eq 23, 3) := by decide +kernel
theorem dX0_beatAgainst_16 : decode cX0_beatAgainst 16 = .ok (.aload_n 0, 1) := by decide +kernel
theorem dX0_beatAgainst_17 : decode cX0_beatAgainst 17 = .ok (.getfield 25, 3) := by decide +kernel
theorem dX0_beatAgainst_20 : decode cX0_beatAgainst 20 = .ok (.iload_n 1, 1) := by decide +kernel
theorem dX0_beatAgainst_21 : decode cX0_beatAgainst 21 = .ok (.iaload, 1) := by decide +kernel
theorem dX0_beatAgainst_22 : decode cX0_beatAgainst 22 = .ok (.iconst 1, 1) := by decide +kernel
theorem dX0_beatAgainst_23 : decode cX0_beatAgainst 23 = .ok (.if_icmp .lt 13, 3) := by decide +kernel
theorem dX0_beatAgainst_26 : decode cX0_beatAgainst 26 = .ok (.aload_n 0, 1) := by decide +kernel
theorem dX0_beatAgainst_27 : decode cX0_beatAgainst 27 = .ok (.getfield 25, 3) := by decide +kernel
theorem dX0_beatAgainst_30 : decode cX0_beatAgainst 30 = .ok (.iload_n 2, 1) := by decide +kernel
theorem dX0_beatAgainst_31 : decode cX0_beatAgainst 31 = .ok (.iaload, 1) := by decide +kernel
theorem dX0_beatAgainst_32 : decode cX0_beatAgainst 32 = .ok (.iconst 1, 1) := by decide +kernel
theorem dX0_beatAgainst_33 : decode cX0_beatAgainst 33 = .ok (.if_icmp .ge 5, 3) := by decide +kernel
theorem dX0_beatAgainst_36 : decode cX0_beatAgainst 36 = .ok (.iconst 0, 1) := by decide +kernel
theorem dX0_beatAgainst_37 : decode cX0_beatAgainst 37 = .ok (.ireturn, 1) := by decide +kernel
theorem dX0_beatAgainst_38 : decode cX0_beatAgainst 38 = .ok (.aload_n 0, 1) := by decide +kernel
theorem dX0_beatAgainst_39 : decode cX0_beatAgainst 39 = .ok (.iload_n 1, 1) := by decide +kernel
theorem dX0_beatAgainst_40 : decode cX0_beatAgainst 40 = .ok (.invokevirtual 91, 3) := by decide +kernel
theorem dX0_beatAgainst_43 : decode cX0_beatAgainst 43 = .ok (.aload_n 0, 1) := by decide +kernel
theorem dX0_beatAgainst_44 : decode cX0_beatAgainst 44 = .ok (.iload_n 2, 1) := by decide +kernel
theorem dX0_beatAgainst_45 : decode cX0_beatAgainst 45 = .ok (.invokevirtual 91, 3) := by decide +kernel
theorem dX0_beatAgainst_48 : decode cX0_beatAgainst 48 = .ok (.invokestatic 94, 3) := by decide +kernel
theorem dX0_beatAgainst_51 : decode cX0_beatAgainst 51 = .ok (.iconst 1, 1) := by decide +kernel
theorem dX0_beatAgainst_52 : decode cX0_beatAgainst 52 = .ok (.iconst 2, 1) := by decide +kernel
theorem dX0_beatAgainst_53 : decode cX0_beatAgainst 53 = .ok (.invokestatic 60, 3) := by decide +kernel
theorem dX0_beatAgainst_56 : decode cX0_beatAgainst 56 = .ok (.ireturn, 1) := by decide +kernel
set_option maxRecDepth 20000 in
theorem ggX0_glassesBeatingAgainst_X0_beatAgainst : GoodIn wsX0_glassesBeatingAgainst wsX0_beatAgainst := goodIn_r _ [6, 7, 8, 9, 10, 5, 11, 1, 12, 13, 14, 15, 16, 17, 18, 19, 20, 21, 22, 23, 24, 25, 26, 27, 28, 29, 30, 31, 32, 33, 34, 35, 36, 37, 38, 39, 40, 41, 42, 43, 44, 45, 46, 47] (by decide +kernel) (by decide +kernel)
set_option maxRecDepth 20000 in
theorem gX0_glassesBeatingAgainst_X0_beatAgainst : GoodIn wsX0_glassesBeatingAgainst (wsV RX0 97 RX0 yX0_beatAgainst wsX0_beatAgainst) := goodIn_app (goodIn_of _ (by decide +kernel)) ggX0_glassesBeatingAgainst_X0_beatAgainst
theorem dX0_glassesBeatingAgainst_0 : decode cX0_glassesBeatingAgainst 0 = .ok (.iconst 0, 1) := by decide +kernel
theorem dX0_glassesBeatingAgainst_1 : decode cX0_glassesBeatingAgainst 1 = .ok (.istore_n 2, 1) := by decide +kernel
theorem dX0_glassesBeatingAgainst_2 : decode cX0_glassesBeatingAgainst 2 = .ok (.iconst 0, 1) := by decide +kernel
theorem dX0_glassesBeatingAgainst_3 : decode cX0_glassesBeatingAgainst 3 = .ok (.istore_n 3, 1) := by decide +kernel
theorem dX0_glassesBeatingAgainst_4 : decode cX0_glassesBeatingAgainst 4 = .ok (.iload_n 3, 1) := by decide +kernel
theorem dX0_glassesBeatingAgainst_5 : decode cX0_glassesBeatingAgainst 5 = .ok (.aload_n 0, 1) := by decide +kernel
theorem dX0_glassesBeatingAgainst_6 : decode cX0_glassesBeatingAgainst 6 = .ok (.getfield 40, 3) := by decide +kernel
theorem dX0_glassesBeatingAgainst_9 : decode cX0_glassesBeatingAgainst 9 = .ok (.if_icmp .ge 21, 3) := by decide +kernel
theorem dX0_glassesBeatingAgainst_12 : decode cX0_glassesBeatingAgainst 12 = .ok (.aload_n 0, 1) := by decide +kernel
theorem dX0_glassesBeatingAgainst_13 : decode cX0_glassesBeatingAgainst 13 = .ok (.iload_n 1, 1) := by decide +kernel
theorem dX0_glassesBeatingAgainst_14 : decode cX0_glassesBeatingAgainst 14 = .ok (.iload_n 3, 1) := by decide +kernel
theorem dX0_glassesBeatingAgainst_15 : decode cX0_glassesBeatingAgainst 15 = .ok (.invokevirtual 97, 3) := by decide +kernel
theorem dX0_glassesBeatingAgainst_18 : decode cX0_glassesBeatingAgainst 18 = .ok (.ifCond .eq 6, 3) := by decide +kernel
theorem dX0_glassesBeatingAgainst_21 : decode cX0_glassesBeatingAgainst 21 = .ok (.iinc 2 1, 3) := by decide +kernel
theorem dX0_glassesBeatingAgainst_24 : decode cX0_glassesBeatingAgainst 24 = .ok (.iinc 3 1, 3) := by decide +kernel
theorem dX0_glassesBeatingAgainst_27 : decode cX0_glassesBeatingAgainst 27 = .ok (.goto (-23), 3) := by decide +kernel
theorem dX0_glassesBeatingAgainst_30 : decode cX0_glassesBeatingAgainst 30 = .ok (.iload_n 2, 1) := by decide +kernel
theorem dX0_glassesBeatingAgainst_31 : decode cX0_glassesBeatingAgainst 31 = .ok (.ireturn, 1) := by decide +kernel
set_option maxRecDepth 20000 in
theorem ggX0_pairsBeating_X0_glassesBeatingAgainst : GoodIn wsX0_pairsBeating wsX0_glassesBeatingAgainst := goodIn_r _ [6, 1, 7, 8, 9, 5, 10, 11, 12, 13, 14, 15, 16, 17, 18, 19, 20, 21, 22, 23, 24, 25, 26, 27, 28, 29, 30, 31, 32, 33, 34, 35, 36, 37, 38, 39, 40, 41, 42, 43, 44, 45, 46, 47, 48, 49, 50, 51] (by decide +kernel) (by decide +kernel)
set_option maxRecDepth 20000 in
theorem gX0_pairsBeating_X0_glassesBeatingAgainst : GoodIn wsX0_pairsBeating (wsV RX0 100 RX0 yX0_glassesBeatingAgainst wsX0_glassesBeatingAgainst) := goodIn_app (goodIn_of _ (by decide +kernel)) ggX0_pairsBeating_X0_glassesBeatingAgainst
theorem dX0_pairsBeating_0 : decode cX0_pairsBeating 0 = .ok (.iconst 0, 1) := by decide +kernel
theorem dX0_pairsBeating_1 : decode cX0_pairsBeating 1 = .ok (.istore_n 1, 1) := by decide +kernel
theorem dX0_pairsBeating_2 : decode cX0_pairsBeating 2 = .ok (.iconst 0, 1) := by decide +kernel
theorem dX0_pairsBeating_3 : decode cX0_pairsBeating 3 = .ok (.istore_n 2, 1) := by decide +kernel
theorem dX0_pairsBeating_4 : decode cX0_pairsBeating 4 = .ok (.iload_n 2, 1) := by decide +kernel
theorem dX0_pairsBeating_5 : decode cX0_pairsBeating 5 = .ok (.aload_n 0, 1) := by decide +kernel
theorem dX0_pairsBeating_6 : decode cX0_pairsBeating 6 = .ok (.getfield 40, 3) := by decide +kernel
theorem dX0_pairsBeating_9 : decode cX0_pairsBeating 9 = .ok (.if_icmp .ge 17, 3) := by decide +kernel
theorem dX0_pairsBeating_12 : decode cX0_pairsBeating 12 = .ok (.iload_n 1, 1) := by decide +kernel
theorem dX0_pairsBeating_13 : decode cX0_pairsBeating 13 = .ok (.aload_n 0, 1) := by decide +kernel
theorem dX0_pairsBeating_14 : decode cX0_pairsBeating 14 = .ok (.iload_n 2, 1) := by decide +kernel
theorem dX0_pairsBeating_15 : decode cX0_pairsBeating 15 = .ok (.invokevirtual 100, 3) := by decide +kernel
theorem dX0_pairsBeating_18 : decode cX0_pairsBeating 18 = .ok (.iadd, 1) := by decide +kernel
theorem dX0_pairsBeating_19 : decode cX0_pairsBeating 19 = .ok (.istore_n 1, 1) := by decide +kernel
theorem dX0_pairsBeating_20 : decode cX0_pairsBeating 20 = .ok (.iinc 2 1, 3) := by decide +kernel
theorem dX0_pairsBeating_23 : decode cX0_pairsBeating 23 = .ok (.goto (-19), 3) := by decide +kernel
theorem dX0_pairsBeating_26 : decode cX0_pairsBeating 26 = .ok (.iload_n 1, 1) := by decide +kernel
theorem dX0_pairsBeating_27 : decode cX0_pairsBeating 27 = .ok (.iconst 2, 1) := by decide +kernel
theorem dX0_pairsBeating_28 : decode cX0_pairsBeating 28 = .ok (.idiv, 1) := by decide +kernel
theorem dX0_pairsBeating_29 : decode cX0_pairsBeating 29 = .ok (.ireturn, 1) := by decide +kernel
set_option maxRecDepth 20000 in
theorem ggX0_letGoBy_X0_fillBellows : GoodIn wsX0_letGoBy wsX0_fillBellows := goodIn_r _ [6, 7, 8, 9, 10, 11, 12, 72, 73, 74, 75, 76, 77, 78, 79, 80, 81, 82, 83, 84, 85, 86] (by decide +kernel) (by decide +kernel)
set_option maxRecDepth 20000 in
theorem gX0_letGoBy_X0_fillBellows : GoodIn wsX0_letGoBy (wsV RX0 103 RX0 yX0_fillBellows wsX0_fillBellows) := goodIn_app (goodIn_of _ (by decide +kernel)) ggX0_letGoBy_X0_fillBellows
set_option maxRecDepth 20000 in
theorem ggX0_letGoBy_X0_playNotes : GoodIn wsX0_letGoBy wsX0_playNotes := goodIn_r _ [16, 17, 18, 19, 1, 20, 21, 22, 23, 24, 25, 26, 27, 28, 5, 29, 30, 31, 32, 33, 34, 35, 7, 36, 37, 38, 39, 40, 41, 42, 43, 44, 45, 46, 11, 47, 48, 49, 50, 51, 52, 53, 54, 55, 56, 57, 58, 59, 60, 61, 62, 63, 64, 65, 66, 67, 72, 73, 74, 75, 76, 77, 78, 79, 80, 81, 82, 83, 84, 85, 86, 87, 88, 89, 90, 91] (by decide +kernel) (by decide +kernel)
set_option maxRecDepth 20000 in
theorem gX0_letGoBy_X0_playNotes : GoodIn wsX0_letGoBy (wsV RX0 106 RX0 yX0_playNotes wsX0_playNotes) := goodIn_app (goodIn_of _ (by decide +kernel)) ggX0_letGoBy_X0_playNotes
set_option maxRecDepth 20000 in
theorem ggX0_letGoBy_X0_fadeAndDry : GoodIn wsX0_letGoBy wsX0_fadeAndDry := goodIn_r _ [71, 1, 17, 18, 67, 45, 46, 11, 47, 44, 72, 73, 74, 75, 76, 77, 78, 79, 80, 81, 82, 83, 84, 85, 86] (by decide +kernel) (by decide +kernel)
set_option maxRecDepth 20000 in
theorem gX0_letGoBy_X0_fadeAndDry : GoodIn wsX0_letGoBy (wsV RX0 109 RX0 yX0_fadeAndDry wsX0_fadeAndDry) := goodIn_app (goodIn_of _ (by decide +kernel)) ggX0_letGoBy_X0_fadeAndDry
theorem dX0_letGoBy_0 : decode cX0_letGoBy 0 = .ok (.iconst 0, 1) := by decide +kernel
theorem dX0_letGoBy_1 : decode cX0_letGoBy 1 = .ok (.istore_n 2, 1) := by decide +kernel
theorem dX0_letGoBy_2 : decode cX0_letGoBy 2 = .ok (.iload_n 2, 1) := by decide +kernel
theorem dX0_letGoBy_3 : decode cX0_letGoBy 3 = .ok (.iload_n 1, 1) := by decide +kernel
theorem dX0_letGoBy_4 : decode cX0_letGoBy 4 = .ok (.if_icmp .ge 31, 3) := by decide +kernel
theorem dX0_letGoBy_7 : decode cX0_letGoBy 7 = .ok (.aload_n 0, 1) := by decide +kernel
theorem dX0_letGoBy_8 : decode cX0_letGoBy 8 = .ok (.invokevirtual 103, 3) := by decide +kernel
theorem dX0_letGoBy_11 : decode cX0_letGoBy 11 = .ok (.aload_n 0, 1) := by decide +kernel
theorem dX0_letGoBy_12 : decode cX0_letGoBy 12 = .ok (.invokevirtual 106, 3) := by decide +kernel
theorem dX0_letGoBy_15 : decode cX0_letGoBy 15 = .ok (.aload_n 0, 1) := by decide +kernel
theorem dX0_letGoBy_16 : decode cX0_letGoBy 16 = .ok (.invokevirtual 109, 3) := by decide +kernel
theorem dX0_letGoBy_19 : decode cX0_letGoBy 19 = .ok (.aload_n 0, 1) := by decide +kernel
theorem dX0_letGoBy_20 : decode cX0_letGoBy 20 = .ok (.dup, 1) := by decide +kernel
theorem dX0_letGoBy_21 : decode cX0_letGoBy 21 = .ok (.getfield 44, 3) := by decide +kernel
theorem dX0_letGoBy_24 : decode cX0_letGoBy 24 = .ok (.iconst 1, 1) := by decide +kernel
theorem dX0_letGoBy_25 : decode cX0_letGoBy 25 = .ok (.iadd, 1) := by decide +kernel
theorem dX0_letGoBy_26 : decode cX0_letGoBy 26 = .ok (.putfield 44, 3) := by decide +kernel
theorem dX0_letGoBy_29 : decode cX0_letGoBy 29 = .ok (.iinc 2 1, 3) := by decide +kernel
theorem dX0_letGoBy_32 : decode cX0_letGoBy 32 = .ok (.goto (-30), 3) := by decide +kernel
theorem dX0_letGoBy_35 : decode cX0_letGoBy 35 = .ok (.return_, 1) := by decide +kernel
theorem dX0_fillBellows_0 : decode cX0_fillBellows 0 = .ok (.iconst 0, 1) := by decide +kernel
theorem dX0_fillBellows_1 : decode cX0_fillBellows 1 = .ok (.istore_n 1, 1) := by decide +kernel
theorem dX0_fillBellows_2 : decode cX0_fillBellows 2 = .ok (.iload_n 1, 1) := by decide +kernel
theorem dX0_fillBellows_3 : decode cX0_fillBellows 3 = .ok (.iconst 4, 1) := by decide +kernel
theorem dX0_fillBellows_4 : decode cX0_fillBellows 4 = .ok (.if_icmp .ge 33, 3) := by decide +kernel
theorem dX0_fillBellows_7 : decode cX0_fillBellows 7 = .ok (.aload_n 0, 1) := by decide +kernel
theorem dX0_fillBellows_8 : decode cX0_fillBellows 8 = .ok (.getfield 34, 3) := by decide +kernel
theorem dX0_fillBellows_11 : decode cX0_fillBellows 11 = .ok (.iload_n 1, 1) := by decide +kernel
theorem dX0_fillBellows_12 : decode cX0_fillBellows 12 = .ok (.bipush 60, 2) := by decide +kernel
theorem dX0_fillBellows_14 : decode cX0_fillBellows 14 = .ok (.aload_n 0, 1) := by decide +kernel
theorem dX0_fillBellows_15 : decode cX0_fillBellows 15 = .ok (.getfield 34, 3) := by decide +kernel
theorem dX0_fillBellows_18 : decode cX0_fillBellows 18 = .ok (.iload_n 1, 1) := by decide +kernel
theorem dX0_fillBellows_19 : decode cX0_fillBellows 19 = .ok (.iaload, 1) := by decide +kernel
theorem dX0_fillBellows_20 : decode cX0_fillBellows 20 = .ok (.aload_n 0, 1) := by decide +kernel
theorem dX0_fillBellows_21 : decode cX0_fillBellows 21 = .ok (.getfield 37, 3) := by decide +kernel
theorem dX0_fillBellows_24 : decode cX0_fillBellows 24 = .ok (.iload_n 1, 1) := by decide +kernel
theorem dX0_fillBellows_25 : decode cX0_fillBellows 25 = .ok (.iaload, 1) := by decide +kernel
theorem dX0_fillBellows_26 : decode cX0_fillBellows 26 = .ok (.iadd, 1) := by decide +kernel
theorem dX0_fillBellows_27 : decode cX0_fillBellows 27 = .ok (.invokestatic 112, 3) := by decide +kernel
theorem dX0_fillBellows_30 : decode cX0_fillBellows 30 = .ok (.iastore, 1) := by decide +kernel
theorem dX0_fillBellows_31 : decode cX0_fillBellows 31 = .ok (.iinc 1 1, 3) := by decide +kernel
theorem dX0_fillBellows_34 : decode cX0_fillBellows 34 = .ok (.goto (-32), 3) := by decide +kernel
theorem dX0_fillBellows_37 : decode cX0_fillBellows 37 = .ok (.return_, 1) := by decide +kernel
set_option maxRecDepth 20000 in
theorem ggX0_playNotes_X1_beatAt : GoodIn wsX0_playNotes wsX1_beatAt := goodIn_r _ [9, 10, 71, 72, 73, 74, 75] (by decide +kernel) (by decide +kernel)
set_option maxRecDepth 20000 in
theorem gX0_playNotes_X1_beatAt_n115 : GoodIn wsX0_playNotes (wsX1_beatAt) := ggX0_playNotes_X1_beatAt
set_option maxRecDepth 20000 in
theorem ggX0_playNotes_X0_playerFor : GoodIn wsX0_playNotes wsX0_playerFor := goodIn_r _ [15, 1, 16, 2, 17, 18, 19, 20, 14, 21, 22, 23, 24, 25, 26, 27, 28, 29, 30, 31, 32, 33, 34, 35, 36, 37, 38, 39, 40, 41, 42, 43, 44, 45, 46, 47, 56, 57, 58, 59, 60, 61, 62, 63, 64, 65, 66, 67, 68, 69, 70] (by decide +kernel) (by decide +kernel)
set_option maxRecDepth 20000 in
theorem gX0_playNotes_X0_playerFor : GoodIn wsX0_playNotes (wsV RX0 132 RX0 yX0_playerFor wsX0_playerFor) := goodIn_app (goodIn_of _ (by decide +kernel)) ggX0_playNotes_X0_playerFor
set_option maxRecDepth 20000 in
theorem ggX0_playNotes_X0_hasGlass : GoodIn wsX0_playNotes wsX0_hasGlass := goodIn_r _ [39, 1, 56, 57, 58, 59, 60, 61, 62, 63, 64, 65, 66, 67, 68, 69, 70] (by decide +kernel) (by decide +kernel)
set_option maxRecDepth 20000 in
theorem gX0_playNotes_X0_hasGlass : GoodIn wsX0_playNotes (wsV RX0 64 RX0 yX0_hasGlass wsX0_hasGlass) := goodIn_app (goodIn_of _ (by decide +kernel)) ggX0_playNotes_X0_hasGlass
set_option maxRecDepth 20000 in
theorem ggX0_playNotes_X0_rub : GoodIn wsX0_playNotes wsX0_rub := goodIn_r _ [51, 52, 53, 17, 22, 2, 54, 55, 31, 32, 33, 34, 35, 30, 16, 26, 27, 28, 14, 29, 36, 37, 38, 39, 1, 40, 41, 42, 43, 44, 45, 46, 24, 47, 18, 19, 20, 21, 23, 25, 56, 57, 58, 59, 60, 61, 62, 63, 64, 65, 66, 67, 68, 69, 70] (by decide +kernel) (by decide +kernel)
set_option maxRecDepth 20000 in
theorem gX0_playNotes_X0_rub : GoodIn wsX0_playNotes (wsV RX0 135 RX0 yX0_rub wsX0_rub) := goodIn_app (goodIn_of _ (by decide +kernel)) ggX0_playNotes_X0_rub
theorem dX0_playNotes_0 : decode cX0_playNotes 0 = .ok (.iconst 0, 1) := by decide +kernel
theorem dX0_playNotes_1 : decode cX0_playNotes 1 = .ok (.istore_n 1, 1) := by decide +kernel
theorem dX0_playNotes_2 : decode cX0_playNotes 2 = .ok (.iload_n 1, 1) := by decide +kernel
theorem dX0_playNotes_3 : decode cX0_playNotes 3 = .ok (.aload_n 0, 1) := by decide +kernel
theorem dX0_playNotes_4 : decode cX0_playNotes 4 = .ok (.getfield 40, 3) := by decide +kernel
theorem dX0_playNotes_7 : decode cX0_playNotes 7 = .ok (.if_icmp .ge 16, 3) := by decide +kernel
theorem dX0_playNotes_10 : decode cX0_playNotes 10 = .ok (.aload_n 0, 1) := by decide +kernel
theorem dX0_playNotes_11 : decode cX0_playNotes 11 = .ok (.getfield 31, 3) := by decide +kernel
theorem dX0_playNotes_14 : decode cX0_playNotes 14 = .ok (.iload_n 1, 1) := by decide +kernel
theorem dX0_playNotes_15 : decode cX0_playNotes 15 = .ok (.iconst 0, 1) := by decide +kernel
theorem dX0_playNotes_16 : decode cX0_playNotes 16 = .ok (.bastore, 1) := by decide +kernel
theorem dX0_playNotes_17 : decode cX0_playNotes 17 = .ok (.iinc 1 1, 3) := by decide +kernel
theorem dX0_playNotes_20 : decode cX0_playNotes 20 = .ok (.goto (-18), 3) := by decide +kernel
theorem dX0_playNotes_23 : decode cX0_playNotes 23 = .ok (.aload_n 0, 1) := by decide +kernel
theorem dX0_playNotes_24 : decode cX0_playNotes 24 = .ok (.getfield 56, 3) := by decide +kernel
theorem dX0_playNotes_27 : decode cX0_playNotes 27 = .ok (.aload_n 0, 1) := by decide +kernel
theorem dX0_playNotes_28 : decode cX0_playNotes 28 = .ok (.getfield 44, 3) := by decide +kernel
theorem dX0_playNotes_31 : decode cX0_playNotes 31 = .ok (.invokevirtual 115, 3) := by decide +kernel
theorem dX0_playNotes_34 : decode cX0_playNotes 34 = .ok (.istore_n 1, 1) := by decide +kernel
theorem dX0_playNotes_35 : decode cX0_playNotes 35 = .ok (.iconst 0, 1) := by decide +kernel
theorem dX0_playNotes_36 : decode cX0_playNotes 36 = .ok (.istore_n 2, 1) := by decide +kernel
theorem dX0_playNotes_37 : decode cX0_playNotes 37 = .ok (.iload_n 2, 1) := by decide +kernel
theorem dX0_playNotes_38 : decode cX0_playNotes 38 = .ok (.aload_n 0, 1) := by decide +kernel
theorem dX0_playNotes_39 : decode cX0_playNotes 39 = .ok (.getfield 56, 3) := by decide +kernel
theorem dX0_playNotes_42 : decode cX0_playNotes 42 = .ok (.getfield 120, 3) := by decide +kernel
theorem dX0_playNotes_45 : decode cX0_playNotes 45 = .ok (.if_icmp .ge 89, 3) := by decide +kernel
theorem dX0_playNotes_48 : decode cX0_playNotes 48 = .ok (.aload_n 0, 1) := by decide +kernel
theorem dX0_playNotes_49 : decode cX0_playNotes 49 = .ok (.getfield 56, 3) := by decide +kernel
theorem dX0_playNotes_52 : decode cX0_playNotes 52 = .ok (.getfield 123, 3) := by decide +kernel
theorem dX0_playNotes_55 : decode cX0_playNotes 55 = .ok (.iload_n 2, 1) := by decide +kernel
theorem dX0_playNotes_56 : decode cX0_playNotes 56 = .ok (.iaload, 1) := by decide +kernel
theorem dX0_playNotes_57 : decode cX0_playNotes 57 = .ok (.iload_n 1, 1) := by decide +kernel
theorem dX0_playNotes_58 : decode cX0_playNotes 58 = .ok (.if_icmp .ne 70, 3) := by decide +kernel
theorem dX0_playNotes_61 : decode cX0_playNotes 61 = .ok (.aload_n 0, 1) := by decide +kernel
theorem dX0_playNotes_62 : decode cX0_playNotes 62 = .ok (.aload_n 0, 1) := by decide +kernel
theorem dX0_playNotes_63 : decode cX0_playNotes 63 = .ok (.getfield 56, 3) := by decide +kernel
theorem dX0_playNotes_66 : decode cX0_playNotes 66 = .ok (.getfield 126, 3) := by decide +kernel
theorem dX0_playNotes_69 : decode cX0_playNotes 69 = .ok (.iload_n 2, 1) := by decide +kernel
theorem dX0_playNotes_70 : decode cX0_playNotes 70 = .ok (.iaload, 1) := by decide +kernel
theorem dX0_playNotes_71 : decode cX0_playNotes 71 = .ok (.aload_n 0, 1) := by decide +kernel
theorem dX0_playNotes_72 : decode cX0_playNotes 72 = .ok (.getfield 56, 3) := by decide +kernel
theorem dX0_playNotes_75 : decode cX0_playNotes 75 = .ok (.getfield 129, 3) := by decide +kernel
theorem dX0_playNotes_78 : decode cX0_playNotes 78 = .ok (.iload_n 2, 1) := by decide +kernel
theorem dX0_playNotes_79 : decode cX0_playNotes 79 = .ok (.iaload, 1) := by decide +kernel
theorem dX0_playNotes_80 : decode cX0_playNotes 80 = .ok (.invokevirtual 132, 3) := by decide +kernel
theorem dX0_playNotes_83 : decode cX0_playNotes 83 = .ok (.istore_n 3, 1) := by decide +kernel
theorem dX0_playNotes_84 : decode cX0_playNotes 84 = .ok (.aload_n 0, 1) := by decide +kernel
theorem dX0_playNotes_85 : decode cX0_playNotes 85 = .ok (.iload_n 3, 1) := by decide +kernel
theorem dX0_playNotes_86 : decode cX0_playNotes 86 = .ok (.invokevirtual 64, 3) := by decide +kernel
theorem dX0_playNotes_89 : decode cX0_playNotes 89 = .ok (.ifCond .eq 29, 3) := by decide +kernel
theorem dX0_playNotes_92 : decode cX0_playNotes 92 = .ok (.aload_n 0, 1) := by decide +kernel
theorem dX0_playNotes_93 : decode cX0_playNotes 93 = .ok (.iload_n 3, 1) := by decide +kernel
theorem dX0_playNotes_94 : decode cX0_playNotes 94 = .ok (.aload_n 0, 1) := by decide +kernel
theorem dX0_playNotes_95 : decode cX0_playNotes 95 = .ok (.getfield 56, 3) := by decide +kernel
theorem dX0_playNotes_98 : decode cX0_playNotes 98 = .ok (.getfield 126, 3) := by decide +kernel
theorem dX0_playNotes_101 : decode cX0_playNotes 101 = .ok (.iload_n 2, 1) := by decide +kernel
theorem dX0_playNotes_102 : decode cX0_playNotes 102 = .ok (.iaload, 1) := by decide +kernel
theorem dX0_playNotes_103 : decode cX0_playNotes 103 = .ok (.aload_n 0, 1) := by decide +kernel
theorem dX0_playNotes_104 : decode cX0_playNotes 104 = .ok (.getfield 56, 3) := by decide +kernel
theorem dX0_playNotes_107 : decode cX0_playNotes 107 = .ok (.getfield 129, 3) := by decide +kernel
theorem dX0_playNotes_110 : decode cX0_playNotes 110 = .ok (.iload_n 2, 1) := by decide +kernel
theorem dX0_playNotes_111 : decode cX0_playNotes 111 = .ok (.iaload, 1) := by decide +kernel
theorem dX0_playNotes_112 : decode cX0_playNotes 112 = .ok (.invokevirtual 135, 3) := by decide +kernel
theorem dX0_playNotes_115 : decode cX0_playNotes 115 = .ok (.goto 13, 3) := by decide +kernel
theorem dX0_playNotes_118 : decode cX0_playNotes 118 = .ok (.aload_n 0, 1) := by decide +kernel
theorem dX0_playNotes_119 : decode cX0_playNotes 119 = .ok (.dup, 1) := by decide +kernel
theorem dX0_playNotes_120 : decode cX0_playNotes 120 = .ok (.getfield 53, 3) := by decide +kernel
theorem dX0_playNotes_123 : decode cX0_playNotes 123 = .ok (.iconst 1, 1) := by decide +kernel
theorem dX0_playNotes_124 : decode cX0_playNotes 124 = .ok (.iadd, 1) := by decide +kernel
theorem dX0_playNotes_125 : decode cX0_playNotes 125 = .ok (.putfield 53, 3) := by decide +kernel
theorem dX0_playNotes_128 : decode cX0_playNotes 128 = .ok (.iinc 2 1, 3) := by decide +kernel
theorem dX0_playNotes_131 : decode cX0_playNotes 131 = .ok (.goto (-94), 3) := by decide +kernel
theorem dX0_playNotes_134 : decode cX0_playNotes 134 = .ok (.return_, 1) := by decide +kernel
set_option maxRecDepth 20000 in
theorem ggX0_playerFor_X0_hasAir : GoodIn wsX0_playerFor wsX0_hasAir := goodIn_r _ [9, 10, 11, 12, 13, 36, 37, 38, 39, 40, 41, 42, 43, 44, 45, 46, 47, 48, 49, 50] (by decide +kernel) (by decide +kernel)
set_option maxRecDepth 20000 in
theorem gX0_playerFor_X0_hasAir : GoodIn wsX0_playerFor (wsV RX0 139 RX0 yX0_hasAir wsX0_hasAir) := goodIn_app (goodIn_of _ (by decide +kernel)) ggX0_playerFor_X0_hasAir
set_option maxRecDepth 20000 in
theorem ggX0_playerFor_X0_toneOf : GoodIn wsX0_playerFor wsX0_toneOf := goodIn_r _ [17, 18, 19, 20, 21, 22, 23, 24, 25, 26, 8, 27, 1, 28, 29, 30, 31, 32, 33, 36, 37, 38, 39, 40, 41, 42, 43, 44, 45, 46, 47, 48, 49, 50] (by decide +kernel) (by decide +kernel)
set_option maxRecDepth 20000 in
theorem gX0_playerFor_X0_toneOf : GoodIn wsX0_playerFor (wsV RX0 91 RX0 yX0_toneOf wsX0_toneOf) := goodIn_app (goodIn_of _ (by decide +kernel)) ggX0_playerFor_X0_toneOf
set_option maxRecDepth 20000 in
theorem ggX0_playerFor_X2_distance : GoodIn wsX0_playerFor wsX2_distance := goodIn_r _ [35] (by decide +kernel) (by decide +kernel)
set_option maxRecDepth 20000 in
theorem gX0_playerFor_X2_distance_n94 : GoodIn wsX0_playerFor (wsX2_distance) := ggX0_playerFor_X2_distance
theorem dX0_playerFor_0 : decode cX0_playerFor 0 = .ok (.iconst (-1), 1) := by decide +kernel
theorem dX0_playerFor_1 : decode cX0_playerFor 1 = .ok (.istore_n 3, 1) := by decide +kernel
theorem dX0_playerFor_2 : decode cX0_playerFor 2 = .ok (.bipush 7, 2) := by decide +kernel
theorem dX0_playerFor_4 : decode cX0_playerFor 4 = .ok (.istore 4, 2) := by decide +kernel
theorem dX0_playerFor_6 : decode cX0_playerFor 6 = .ok (.iconst 0, 1) := by decide +kernel
theorem dX0_playerFor_7 : decode cX0_playerFor 7 = .ok (.istore 5, 2) := by decide +kernel
theorem dX0_playerFor_9 : decode cX0_playerFor 9 = .ok (.iload 5, 2) := by decide +kernel
theorem dX0_playerFor_11 : decode cX0_playerFor 11 = .ok (.aload_n 0, 1) := by decide +kernel
theorem dX0_playerFor_12 : decode cX0_playerFor 12 = .ok (.getfield 40, 3) := by decide +kernel
theorem dX0_playerFor_15 : decode cX0_playerFor 15 = .ok (.if_icmp .ge 70, 3) := by decide +kernel
theorem dX0_playerFor_18 : decode cX0_playerFor 18 = .ok (.aload_n 0, 1) := by decide +kernel
theorem dX0_playerFor_19 : decode cX0_playerFor 19 = .ok (.getfield 21, 3) := by decide +kernel
theorem dX0_playerFor_22 : decode cX0_playerFor 22 = .ok (.iload 5, 2) := by decide +kernel
theorem dX0_playerFor_24 : decode cX0_playerFor 24 = .ok (.baload, 1) := by decide +kernel
theorem dX0_playerFor_25 : decode cX0_playerFor 25 = .ok (.ifCond .ne 54, 3) := by decide +kernel
theorem dX0_playerFor_28 : decode cX0_playerFor 28 = .ok (.aload_n 0, 1) := by decide +kernel
theorem dX0_playerFor_29 : decode cX0_playerFor 29 = .ok (.getfield 31, 3) := by decide +kernel
theorem dX0_playerFor_32 : decode cX0_playerFor 32 = .ok (.iload 5, 2) := by decide +kernel
theorem dX0_playerFor_34 : decode cX0_playerFor 34 = .ok (.baload, 1) := by decide +kernel
theorem dX0_playerFor_35 : decode cX0_playerFor 35 = .ok (.ifCond .ne 44, 3) := by decide +kernel
theorem dX0_playerFor_38 : decode cX0_playerFor 38 = .ok (.aload_n 0, 1) := by decide +kernel
theorem dX0_playerFor_39 : decode cX0_playerFor 39 = .ok (.aload_n 0, 1) := by decide +kernel
theorem dX0_playerFor_40 : decode cX0_playerFor 40 = .ok (.getfield 9, 3) := by decide +kernel
theorem dX0_playerFor_43 : decode cX0_playerFor 43 = .ok (.iload 5, 2) := by decide +kernel
theorem dX0_playerFor_45 : decode cX0_playerFor 45 = .ok (.iaload, 1) := by decide +kernel
theorem dX0_playerFor_46 : decode cX0_playerFor 46 = .ok (.iload_n 2, 1) := by decide +kernel
theorem dX0_playerFor_47 : decode cX0_playerFor 47 = .ok (.invokevirtual 139, 3) := by decide +kernel
theorem dX0_playerFor_50 : decode cX0_playerFor 50 = .ok (.ifCond .eq 29, 3) := by decide +kernel
theorem dX0_playerFor_53 : decode cX0_playerFor 53 = .ok (.aload_n 0, 1) := by decide +kernel
theorem dX0_playerFor_54 : decode cX0_playerFor 54 = .ok (.iload 5, 2) := by decide +kernel
theorem dX0_playerFor_56 : decode cX0_playerFor 56 = .ok (.invokevirtual 91, 3) := by decide +kernel
theorem dX0_playerFor_59 : decode cX0_playerFor 59 = .ok (.iload_n 1, 1) := by decide +kernel
theorem dX0_playerFor_60 : decode cX0_playerFor 60 = .ok (.invokestatic 94, 3) := by decide +kernel
theorem dX0_playerFor_63 : decode cX0_playerFor 63 = .ok (.istore 6, 2) := by decide +kernel
theorem dX0_playerFor_65 : decode cX0_playerFor 65 = .ok (.iload 6, 2) := by decide +kernel
theorem dX0_playerFor_67 : decode cX0_playerFor 67 = .ok (.iload 4, 2) := by decide +kernel
theorem dX0_playerFor_69 : decode cX0_playerFor 69 = .ok (.if_icmp .ge 10, 3) := by decide +kernel
theorem dX0_playerFor_72 : decode cX0_playerFor 72 = .ok (.iload 6, 2) := by decide +kernel
theorem dX0_playerFor_74 : decode cX0_playerFor 74 = .ok (.istore 4, 2) := by decide +kernel
theorem dX0_playerFor_76 : decode cX0_playerFor 76 = .ok (.iload 5, 2) := by decide +kernel
theorem dX0_playerFor_78 : decode cX0_playerFor 78 = .ok (.istore_n 3, 1) := by decide +kernel
theorem dX0_playerFor_79 : decode cX0_playerFor 79 = .ok (.iinc 5 1, 3) := by decide +kernel
theorem dX0_playerFor_82 : decode cX0_playerFor 82 = .ok (.goto (-73), 3) := by decide +kernel
theorem dX0_playerFor_85 : decode cX0_playerFor 85 = .ok (.iload_n 3, 1) := by decide +kernel
theorem dX0_playerFor_86 : decode cX0_playerFor 86 = .ok (.ireturn, 1) := by decide +kernel
set_option maxRecDepth 20000 in
theorem ggX0_hasAir_X2_isWithin : GoodIn wsX0_hasAir wsX2_isWithin := goodIn_r _ [4] (by decide +kernel) (by decide +kernel)
set_option maxRecDepth 20000 in
theorem gX0_hasAir_X2_isWithin_n60 : GoodIn wsX0_hasAir (wsX2_isWithin) := ggX0_hasAir_X2_isWithin
theorem dX0_hasAir_0 : decode cX0_hasAir 0 = .ok (.iload_n 1, 1) := by decide +kernel
theorem dX0_hasAir_1 : decode cX0_hasAir 1 = .ok (.iconst 0, 1) := by decide +kernel
theorem dX0_hasAir_2 : decode cX0_hasAir 2 = .ok (.iconst 3, 1) := by decide +kernel
theorem dX0_hasAir_3 : decode cX0_hasAir 3 = .ok (.invokestatic 60, 3) := by decide +kernel
theorem dX0_hasAir_6 : decode cX0_hasAir 6 = .ok (.ifCond .eq 17, 3) := by decide +kernel
theorem dX0_hasAir_9 : decode cX0_hasAir 9 = .ok (.aload_n 0, 1) := by decide +kernel
theorem dX0_hasAir_10 : decode cX0_hasAir 10 = .ok (.getfield 34, 3) := by decide +kernel
theorem dX0_hasAir_13 : decode cX0_hasAir 13 = .ok (.iload_n 1, 1) := by decide +kernel
theorem dX0_hasAir_14 : decode cX0_hasAir 14 = .ok (.iaload, 1) := by decide +kernel
theorem dX0_hasAir_15 : decode cX0_hasAir 15 = .ok (.iload_n 2, 1) := by decide +kernel
theorem dX0_hasAir_16 : decode cX0_hasAir 16 = .ok (.if_icmp .lt 7, 3) := by decide +kernel
theorem dX0_hasAir_19 : decode cX0_hasAir 19 = .ok (.iconst 1, 1) := by decide +kernel
theorem dX0_hasAir_20 : decode cX0_hasAir 20 = .ok (.goto 4, 3) := by decide +kernel
theorem dX0_hasAir_23 : decode cX0_hasAir 23 = .ok (.iconst 0, 1) := by decide +kernel
theorem dX0_hasAir_24 : decode cX0_hasAir 24 = .ok (.ireturn, 1) := by decide +kernel
set_option maxRecDepth 20000 in
theorem ggX0_rub_X0_toneOf : GoodIn wsX0_rub wsX0_toneOf := goodIn_r _ [19, 13, 8, 9, 10, 11, 12, 20, 21, 22, 18, 23, 24, 25, 26, 27, 28, 29, 30, 40, 41, 42, 43, 44, 45, 46, 47, 48, 49, 50, 51, 52, 53, 54] (by decide +kernel) (by decide +kernel)
set_option maxRecDepth 20000 in
theorem gX0_rub_X0_toneOf : GoodIn wsX0_rub (wsV RX0 91 RX0 yX0_toneOf wsX0_toneOf) := goodIn_app (goodIn_of _ (by decide +kernel)) ggX0_rub_X0_toneOf
set_option maxRecDepth 20000 in
theorem ggX0_rub_X2_distance : GoodIn wsX0_rub wsX2_distance := goodIn_r _ [33] (by decide +kernel) (by decide +kernel)
set_option maxRecDepth 20000 in
theorem gX0_rub_X2_distance_n94 : GoodIn wsX0_rub (wsX2_distance) := ggX0_rub_X2_distance
set_option maxRecDepth 20000 in
theorem ggX0_rub_X0_hasAir : GoodIn wsX0_rub wsX0_hasAir := goodIn_r _ [37, 4, 38, 32, 39, 40, 41, 42, 43, 44, 45, 46, 47, 48, 49, 50, 51, 52, 53, 54] (by decide +kernel) (by decide +kernel)
set_option maxRecDepth 20000 in
theorem gX0_rub_X0_hasAir : GoodIn wsX0_rub (wsV RX0 139 RX0 yX0_hasAir wsX0_hasAir) := goodIn_app (goodIn_of _ (by decide +kernel)) ggX0_rub_X0_hasAir
theorem dX0_rub_0 : decode cX0_rub 0 = .ok (.aload_n 0, 1) := by decide +kernel
theorem dX0_rub_1 : decode cX0_rub 1 = .ok (.dup, 1) := by decide +kernel
theorem dX0_rub_2 : decode cX0_rub 2 = .ok (.getfield 47, 3) := by decide +kernel
theorem dX0_rub_5 : decode cX0_rub 5 = .ok (.iconst 1, 1) := by decide +kernel
theorem dX0_rub_6 : decode cX0_rub 6 = .ok (.iadd, 1) := by decide +kernel
theorem dX0_rub_7 : decode cX0_rub 7 = .ok (.putfield 47, 3) := by decide +kernel
theorem dX0_rub_10 : decode cX0_rub 10 = .ok (.aload_n 0, 1) := by decide +kernel
theorem dX0_rub_11 : decode cX0_rub 11 = .ok (.iload_n 1, 1) := by decide +kernel
theorem dX0_rub_12 : decode cX0_rub 12 = .ok (.invokevirtual 91, 3) := by decide +kernel
theorem dX0_rub_15 : decode cX0_rub 15 = .ok (.iload_n 2, 1) := by decide +kernel
theorem dX0_rub_16 : decode cX0_rub 16 = .ok (.invokestatic 94, 3) := by decide +kernel
theorem dX0_rub_19 : decode cX0_rub 19 = .ok (.iconst 1, 1) := by decide +kernel
theorem dX0_rub_20 : decode cX0_rub 20 = .ok (.if_icmp .gt 13, 3) := by decide +kernel
theorem dX0_rub_23 : decode cX0_rub 23 = .ok (.aload_n 0, 1) := by decide +kernel
theorem dX0_rub_24 : decode cX0_rub 24 = .ok (.dup, 1) := by decide +kernel
theorem dX0_rub_25 : decode cX0_rub 25 = .ok (.getfield 50, 3) := by decide +kernel
theorem dX0_rub_28 : decode cX0_rub 28 = .ok (.iconst 1, 1) := by decide +kernel
theorem dX0_rub_29 : decode cX0_rub 29 = .ok (.iadd, 1) := by decide +kernel
theorem dX0_rub_30 : decode cX0_rub 30 = .ok (.putfield 50, 3) := by decide +kernel
theorem dX0_rub_33 : decode cX0_rub 33 = .ok (.aload_n 0, 1) := by decide +kernel
theorem dX0_rub_34 : decode cX0_rub 34 = .ok (.getfield 9, 3) := by decide +kernel
theorem dX0_rub_37 : decode cX0_rub 37 = .ok (.iload_n 1, 1) := by decide +kernel
theorem dX0_rub_38 : decode cX0_rub 38 = .ok (.iaload, 1) := by decide +kernel
theorem dX0_rub_39 : decode cX0_rub 39 = .ok (.istore 4, 2) := by decide +kernel
theorem dX0_rub_41 : decode cX0_rub 41 = .ok (.aload_n 0, 1) := by decide +kernel
theorem dX0_rub_42 : decode cX0_rub 42 = .ok (.iload 4, 2) := by decide +kernel
theorem dX0_rub_44 : decode cX0_rub 44 = .ok (.iload_n 3, 1) := by decide +kernel
theorem dX0_rub_45 : decode cX0_rub 45 = .ok (.invokevirtual 139, 3) := by decide +kernel
theorem dX0_rub_48 : decode cX0_rub 48 = .ok (.ifCond .eq 14, 3) := by decide +kernel
theorem dX0_rub_51 : decode cX0_rub 51 = .ok (.aload_n 0, 1) := by decide +kernel
theorem dX0_rub_52 : decode cX0_rub 52 = .ok (.getfield 34, 3) := by decide +kernel
theorem dX0_rub_55 : decode cX0_rub 55 = .ok (.iload 4, 2) := by decide +kernel
theorem dX0_rub_57 : decode cX0_rub 57 = .ok (.dup2, 1) := by decide +kernel
theorem dX0_rub_58 : decode cX0_rub 58 = .ok (.iaload, 1) := by decide +kernel
theorem dX0_rub_59 : decode cX0_rub 59 = .ok (.iload_n 3, 1) := by decide +kernel
theorem dX0_rub_60 : decode cX0_rub 60 = .ok (.isub, 1) := by decide +kernel
theorem dX0_rub_61 : decode cX0_rub 61 = .ok (.iastore, 1) := by decide +kernel
theorem dX0_rub_62 : decode cX0_rub 62 = .ok (.aload_n 0, 1) := by decide +kernel
theorem dX0_rub_63 : decode cX0_rub 63 = .ok (.getfield 31, 3) := by decide +kernel
theorem dX0_rub_66 : decode cX0_rub 66 = .ok (.iload_n 1, 1) := by decide +kernel
theorem dX0_rub_67 : decode cX0_rub 67 = .ok (.iconst 1, 1) := by decide +kernel
theorem dX0_rub_68 : decode cX0_rub 68 = .ok (.bastore, 1) := by decide +kernel
theorem dX0_rub_69 : decode cX0_rub 69 = .ok (.aload_n 0, 1) := by decide +kernel
theorem dX0_rub_70 : decode cX0_rub 70 = .ok (.getfield 28, 3) := by decide +kernel
theorem dX0_rub_73 : decode cX0_rub 73 = .ok (.iload_n 1, 1) := by decide +kernel
theorem dX0_rub_74 : decode cX0_rub 74 = .ok (.dup2, 1) := by decide +kernel
theorem dX0_rub_75 : decode cX0_rub 75 = .ok (.iaload, 1) := by decide +kernel
theorem dX0_rub_76 : decode cX0_rub 76 = .ok (.iconst 1, 1) := by decide +kernel
theorem dX0_rub_77 : decode cX0_rub 77 = .ok (.iadd, 1) := by decide +kernel
theorem dX0_rub_78 : decode cX0_rub 78 = .ok (.iastore, 1) := by decide +kernel
theorem dX0_rub_79 : decode cX0_rub 79 = .ok (.aload_n 0, 1) := by decide +kernel
theorem dX0_rub_80 : decode cX0_rub 80 = .ok (.getfield 25, 3) := by decide +kernel
theorem dX0_rub_83 : decode cX0_rub 83 = .ok (.iload_n 1, 1) := by decide +kernel
theorem dX0_rub_84 : decode cX0_rub 84 = .ok (.bipush 9, 2) := by decide +kernel
theorem dX0_rub_86 : decode cX0_rub 86 = .ok (.iastore, 1) := by decide +kernel
theorem dX0_rub_87 : decode cX0_rub 87 = .ok (.aload_n 0, 1) := by decide +kernel
theorem dX0_rub_88 : decode cX0_rub 88 = .ok (.getfield 18, 3) := by decide +kernel
theorem dX0_rub_91 : decode cX0_rub 91 = .ok (.iload_n 1, 1) := by decide +kernel
theorem dX0_rub_92 : decode cX0_rub 92 = .ok (.iconst 0, 1) := by decide +kernel
theorem dX0_rub_93 : decode cX0_rub 93 = .ok (.aload_n 0, 1) := by decide +kernel
theorem dX0_rub_94 : decode cX0_rub 94 = .ok (.getfield 18, 3) := by decide +kernel
theorem dX0_rub_97 : decode cX0_rub 97 = .ok (.iload_n 1, 1) := by decide +kernel
theorem dX0_rub_98 : decode cX0_rub 98 = .ok (.iaload, 1) := by decide +kernel
theorem dX0_rub_99 : decode cX0_rub 99 = .ok (.iload_n 3, 1) := by decide +kernel
theorem dX0_rub_100 : decode cX0_rub 100 = .ok (.isub, 1) := by decide +kernel
theorem dX0_rub_101 : decode cX0_rub 101 = .ok (.invokestatic 75, 3) := by decide +kernel
theorem dX0_rub_104 : decode cX0_rub 104 = .ok (.iastore, 1) := by decide +kernel
theorem dX0_rub_105 : decode cX0_rub 105 = .ok (.iload_n 3, 1) := by decide +kernel
theorem dX0_rub_106 : decode cX0_rub 106 = .ok (.aload_n 0, 1) := by decide +kernel
theorem dX0_rub_107 : decode cX0_rub 107 = .ok (.getfield 15, 3) := by decide +kernel
theorem dX0_rub_110 : decode cX0_rub 110 = .ok (.iload_n 1, 1) := by decide +kernel
theorem dX0_rub_111 : decode cX0_rub 111 = .ok (.iaload, 1) := by decide +kernel
theorem dX0_rub_112 : decode cX0_rub 112 = .ok (.iconst 3, 1) := by decide +kernel
theorem dX0_rub_113 : decode cX0_rub 113 = .ok (.iadd, 1) := by decide +kernel
theorem dX0_rub_114 : decode cX0_rub 114 = .ok (.if_icmp .le 24, 3) := by decide +kernel
theorem dX0_rub_117 : decode cX0_rub 117 = .ok (.aload_n 0, 1) := by decide +kernel
theorem dX0_rub_118 : decode cX0_rub 118 = .ok (.getfield 21, 3) := by decide +kernel
theorem dX0_rub_121 : decode cX0_rub 121 = .ok (.iload_n 1, 1) := by decide +kernel
theorem dX0_rub_122 : decode cX0_rub 122 = .ok (.iconst 1, 1) := by decide +kernel
theorem dX0_rub_123 : decode cX0_rub 123 = .ok (.bastore, 1) := by decide +kernel
theorem dX0_rub_124 : decode cX0_rub 124 = .ok (.aload_n 0, 1) := by decide +kernel
theorem dX0_rub_125 : decode cX0_rub 125 = .ok (.getfield 18, 3) := by decide +kernel
theorem dX0_rub_128 : decode cX0_rub 128 = .ok (.iload_n 1, 1) := by decide +kernel
theorem dX0_rub_129 : decode cX0_rub 129 = .ok (.iconst 0, 1) := by decide +kernel
theorem dX0_rub_130 : decode cX0_rub 130 = .ok (.iastore, 1) := by decide +kernel
theorem dX0_rub_131 : decode cX0_rub 131 = .ok (.aload_n 0, 1) := by decide +kernel
theorem dX0_rub_132 : decode cX0_rub 132 = .ok (.getfield 25, 3) := by decide +kernel
theorem dX0_rub_135 : decode cX0_rub 135 = .ok (.iload_n 1, 1) := by decide +kernel
theorem dX0_rub_136 : decode cX0_rub 136 = .ok (.iconst 0, 1) := by decide +kernel
theorem dX0_rub_137 : decode cX0_rub 137 = .ok (.iastore, 1) := by decide +kernel
theorem dX0_rub_138 : decode cX0_rub 138 = .ok (.return_, 1) := by decide +kernel
theorem dX0_fadeAndDry_0 : decode cX0_fadeAndDry 0 = .ok (.aload_n 0, 1) := by decide +kernel
theorem dX0_fadeAndDry_1 : decode cX0_fadeAndDry 1 = .ok (.getfield 44, 3) := by decide +kernel
theorem dX0_fadeAndDry_4 : decode cX0_fadeAndDry 4 = .ok (.bipush 8, 2) := by decide +kernel
theorem dX0_fadeAndDry_6 : decode cX0_fadeAndDry 6 = .ok (.irem, 1) := by decide +kernel
theorem dX0_fadeAndDry_7 : decode cX0_fadeAndDry 7 = .ok (.ifCond .ne 7, 3) := by decide +kernel
theorem dX0_fadeAndDry_10 : decode cX0_fadeAndDry 10 = .ok (.iconst 1, 1) := by decide +kernel
theorem dX0_fadeAndDry_11 : decode cX0_fadeAndDry 11 = .ok (.goto 4, 3) := by decide +kernel
theorem dX0_fadeAndDry_14 : decode cX0_fadeAndDry 14 = .ok (.iconst 0, 1) := by decide +kernel
theorem dX0_fadeAndDry_15 : decode cX0_fadeAndDry 15 = .ok (.istore_n 1, 1) := by decide +kernel
theorem dX0_fadeAndDry_16 : decode cX0_fadeAndDry 16 = .ok (.iconst 0, 1) := by decide +kernel
theorem dX0_fadeAndDry_17 : decode cX0_fadeAndDry 17 = .ok (.istore_n 2, 1) := by decide +kernel
theorem dX0_fadeAndDry_18 : decode cX0_fadeAndDry 18 = .ok (.iload_n 2, 1) := by decide +kernel
theorem dX0_fadeAndDry_19 : decode cX0_fadeAndDry 19 = .ok (.aload_n 0, 1) := by decide +kernel
theorem dX0_fadeAndDry_20 : decode cX0_fadeAndDry 20 = .ok (.getfield 40, 3) := by decide +kernel
theorem dX0_fadeAndDry_23 : decode cX0_fadeAndDry 23 = .ok (.if_icmp .ge 58, 3) := by decide +kernel
theorem dX0_fadeAndDry_26 : decode cX0_fadeAndDry 26 = .ok (.aload_n 0, 1) := by decide +kernel
theorem dX0_fadeAndDry_27 : decode cX0_fadeAndDry 27 = .ok (.getfield 31, 3) := by decide +kernel
theorem dX0_fadeAndDry_30 : decode cX0_fadeAndDry 30 = .ok (.iload_n 2, 1) := by decide +kernel
theorem dX0_fadeAndDry_31 : decode cX0_fadeAndDry 31 = .ok (.baload, 1) := by decide +kernel
theorem dX0_fadeAndDry_32 : decode cX0_fadeAndDry 32 = .ok (.ifCond .ne 21, 3) := by decide +kernel
theorem dX0_fadeAndDry_35 : decode cX0_fadeAndDry 35 = .ok (.aload_n 0, 1) := by decide +kernel
theorem dX0_fadeAndDry_36 : decode cX0_fadeAndDry 36 = .ok (.getfield 25, 3) := by decide +kernel
theorem dX0_fadeAndDry_39 : decode cX0_fadeAndDry 39 = .ok (.iload_n 2, 1) := by decide +kernel
theorem dX0_fadeAndDry_40 : decode cX0_fadeAndDry 40 = .ok (.iconst 0, 1) := by decide +kernel
theorem dX0_fadeAndDry_41 : decode cX0_fadeAndDry 41 = .ok (.aload_n 0, 1) := by decide +kernel
theorem dX0_fadeAndDry_42 : decode cX0_fadeAndDry 42 = .ok (.getfield 25, 3) := by decide +kernel
theorem dX0_fadeAndDry_45 : decode cX0_fadeAndDry 45 = .ok (.iload_n 2, 1) := by decide +kernel
theorem dX0_fadeAndDry_46 : decode cX0_fadeAndDry 46 = .ok (.iaload, 1) := by decide +kernel
theorem dX0_fadeAndDry_47 : decode cX0_fadeAndDry 47 = .ok (.iconst 1, 1) := by decide +kernel
theorem dX0_fadeAndDry_48 : decode cX0_fadeAndDry 48 = .ok (.isub, 1) := by decide +kernel
theorem dX0_fadeAndDry_49 : decode cX0_fadeAndDry 49 = .ok (.invokestatic 75, 3) := by decide +kernel
theorem dX0_fadeAndDry_52 : decode cX0_fadeAndDry 52 = .ok (.iastore, 1) := by decide +kernel
theorem dX0_fadeAndDry_53 : decode cX0_fadeAndDry 53 = .ok (.iload_n 1, 1) := by decide +kernel
theorem dX0_fadeAndDry_54 : decode cX0_fadeAndDry 54 = .ok (.ifCond .eq 21, 3) := by decide +kernel
theorem dX0_fadeAndDry_57 : decode cX0_fadeAndDry 57 = .ok (.aload_n 0, 1) := by decide +kernel
theorem dX0_fadeAndDry_58 : decode cX0_fadeAndDry 58 = .ok (.getfield 18, 3) := by decide +kernel
theorem dX0_fadeAndDry_61 : decode cX0_fadeAndDry 61 = .ok (.iload_n 2, 1) := by decide +kernel
theorem dX0_fadeAndDry_62 : decode cX0_fadeAndDry 62 = .ok (.iconst 0, 1) := by decide +kernel
theorem dX0_fadeAndDry_63 : decode cX0_fadeAndDry 63 = .ok (.aload_n 0, 1) := by decide +kernel
theorem dX0_fadeAndDry_64 : decode cX0_fadeAndDry 64 = .ok (.getfield 18, 3) := by decide +kernel
theorem dX0_fadeAndDry_67 : decode cX0_fadeAndDry 67 = .ok (.iload_n 2, 1) := by decide +kernel
theorem dX0_fadeAndDry_68 : decode cX0_fadeAndDry 68 = .ok (.iaload, 1) := by decide +kernel
theorem dX0_fadeAndDry_69 : decode cX0_fadeAndDry 69 = .ok (.iconst 1, 1) := by decide +kernel
theorem dX0_fadeAndDry_70 : decode cX0_fadeAndDry 70 = .ok (.isub, 1) := by decide +kernel
theorem dX0_fadeAndDry_71 : decode cX0_fadeAndDry 71 = .ok (.invokestatic 75, 3) := by decide +kernel
theorem dX0_fadeAndDry_74 : decode cX0_fadeAndDry 74 = .ok (.iastore, 1) := by decide +kernel
theorem dX0_fadeAndDry_75 : decode cX0_fadeAndDry 75 = .ok (.iinc 2 1, 3) := by decide +kernel
theorem dX0_fadeAndDry_78 : decode cX0_fadeAndDry 78 = .ok (.goto (-60), 3) := by decide +kernel
theorem dX0_fadeAndDry_81 : decode cX0_fadeAndDry 81 = .ok (.return_, 1) := by decide +kernel
end
section
theorem dX1_init_0 : decode cX1_init 0 = .ok (.aload_n 0, 1) := by decide +kernel
theorem dX1_init_1 : decode cX1_init 1 = .ok (.invokespecial 3, 3) := by decide +kernel
theorem dX1_init_4 : decode cX1_init 4 = .ok (.aload_n 0, 1) := by decide +kernel
theorem dX1_init_5 : decode cX1_init 5 = .ok (.bipush 32, 2) := by decide +kernel
theorem dX1_init_7 : decode cX1_init 7 = .ok (.newarray .int, 2) := by decide +kernel
theorem dX1_init_9 : decode cX1_init 9 = .ok (.putfield 9, 3) := by decide +kernel
theorem dX1_init_12 : decode cX1_init 12 = .ok (.aload_n 0, 1) := by decide +kernel
theorem dX1_init_13 : decode cX1_init 13 = .ok (.bipush 32, 2) := by decide +kernel
theorem dX1_init_15 : decode cX1_init 15 = .ok (.newarray .int, 2) := by decide +kernel
theorem dX1_init_17 : decode cX1_init 17 = .ok (.putfield 15, 3) := by decide +kernel
theorem dX1_init_20 : decode cX1_init 20 = .ok (.aload_n 0, 1) := by decide +kernel
theorem dX1_init_21 : decode cX1_init 21 = .ok (.bipush 32, 2) := by decide +kernel
theorem dX1_init_23 : decode cX1_init 23 = .ok (.newarray .int, 2) := by decide +kernel
theorem dX1_init_25 : decode cX1_init 25 = .ok (.putfield 18, 3) := by decide +kernel
theorem dX1_init_28 : decode cX1_init 28 = .ok (.aload_n 0, 1) := by decide +kernel
theorem dX1_init_29 : decode cX1_init 29 = .ok (.iconst 0, 1) := by decide +kernel
theorem dX1_init_30 : decode cX1_init 30 = .ok (.putfield 21, 3) := by decide +kernel
theorem dX1_init_33 : decode cX1_init 33 = .ok (.aload_n 0, 1) := by decide +kernel
theorem dX1_init_34 : decode cX1_init 34 = .ok (.bipush 16, 2) := by decide +kernel
theorem dX1_init_36 : decode cX1_init 36 = .ok (.putfield 25, 3) := by decide +kernel
theorem dX1_init_39 : decode cX1_init 39 = .ok (.return_, 1) := by decide +kernel
theorem dX1_hasNote_0 : decode cX1_hasNote 0 = .ok (.iload_n 1, 1) := by decide +kernel
theorem dX1_hasNote_1 : decode cX1_hasNote 1 = .ok (.ifCond .lt 15, 3) := by decide +kernel
theorem dX1_hasNote_4 : decode cX1_hasNote 4 = .ok (.iload_n 1, 1) := by decide +kernel
theorem dX1_hasNote_5 : decode cX1_hasNote 5 = .ok (.aload_n 0, 1) := by decide +kernel
theorem dX1_hasNote_6 : decode cX1_hasNote 6 = .ok (.getfield 21, 3) := by decide +kernel
theorem dX1_hasNote_9 : decode cX1_hasNote 9 = .ok (.if_icmp .ge 7, 3) := by decide +kernel
theorem dX1_hasNote_12 : decode cX1_hasNote 12 = .ok (.iconst 1, 1) := by decide +kernel
theorem dX1_hasNote_13 : decode cX1_hasNote 13 = .ok (.goto 4, 3) := by decide +kernel
theorem dX1_hasNote_16 : decode cX1_hasNote 16 = .ok (.iconst 0, 1) := by decide +kernel
theorem dX1_hasNote_17 : decode cX1_hasNote 17 = .ok (.ireturn, 1) := by decide +kernel
theorem dX1_write_0 : decode cX1_write 0 = .ok (.aload_n 0, 1) := by decide +kernel
theorem dX1_write_1 : decode cX1_write 1 = .ok (.getfield 21, 3) := by decide +kernel
theorem dX1_write_4 : decode cX1_write 4 = .ok (.bipush 32, 2) := by decide +kernel
theorem dX1_write_6 : decode cX1_write 6 = .ok (.if_icmp .lt 5, 3) := by decide +kernel
theorem dX1_write_9 : decode cX1_write 9 = .ok (.iconst 0, 1) := by decide +kernel
theorem dX1_write_10 : decode cX1_write 10 = .ok (.ireturn, 1) := by decide +kernel
theorem dX1_write_11 : decode cX1_write 11 = .ok (.aload_n 0, 1) := by decide +kernel
theorem dX1_write_12 : decode cX1_write 12 = .ok (.getfield 9, 3) := by decide +kernel
theorem dX1_write_15 : decode cX1_write 15 = .ok (.aload_n 0, 1) := by decide +kernel
theorem dX1_write_16 : decode cX1_write 16 = .ok (.getfield 21, 3) := by decide +kernel
theorem dX1_write_19 : decode cX1_write 19 = .ok (.iload_n 1, 1) := by decide +kernel
theorem dX1_write_20 : decode cX1_write 20 = .ok (.iastore, 1) := by decide +kernel
theorem dX1_write_21 : decode cX1_write 21 = .ok (.aload_n 0, 1) := by decide +kernel
theorem dX1_write_22 : decode cX1_write 22 = .ok (.getfield 15, 3) := by decide +kernel
theorem dX1_write_25 : decode cX1_write 25 = .ok (.aload_n 0, 1) := by decide +kernel
theorem dX1_write_26 : decode cX1_write 26 = .ok (.getfield 21, 3) := by decide +kernel
theorem dX1_write_29 : decode cX1_write 29 = .ok (.iload_n 2, 1) := by decide +kernel
theorem dX1_write_30 : decode cX1_write 30 = .ok (.iastore, 1) := by decide +kernel
theorem dX1_write_31 : decode cX1_write 31 = .ok (.aload_n 0, 1) := by decide +kernel
theorem dX1_write_32 : decode cX1_write 32 = .ok (.getfield 18, 3) := by decide +kernel
theorem dX1_write_35 : decode cX1_write 35 = .ok (.aload_n 0, 1) := by decide +kernel
theorem dX1_write_36 : decode cX1_write 36 = .ok (.getfield 21, 3) := by decide +kernel
theorem dX1_write_39 : decode cX1_write 39 = .ok (.iload_n 3, 1) := by decide +kernel
theorem dX1_write_40 : decode cX1_write 40 = .ok (.iastore, 1) := by decide +kernel
theorem dX1_write_41 : decode cX1_write 41 = .ok (.aload_n 0, 1) := by decide +kernel
theorem dX1_write_42 : decode cX1_write 42 = .ok (.dup, 1) := by decide +kernel
theorem dX1_write_43 : decode cX1_write 43 = .ok (.getfield 21, 3) := by decide +kernel
theorem dX1_write_46 : decode cX1_write 46 = .ok (.iconst 1, 1) := by decide +kernel
theorem dX1_write_47 : decode cX1_write 47 = .ok (.iadd, 1) := by decide +kernel
theorem dX1_write_48 : decode cX1_write 48 = .ok (.putfield 21, 3) := by decide +kernel
theorem dX1_write_51 : decode cX1_write 51 = .ok (.iconst 1, 1) := by decide +kernel
theorem dX1_write_52 : decode cX1_write 52 = .ok (.ireturn, 1) := by decide +kernel
set_option maxRecDepth 20000 in
theorem ggX1_takeOut_X1_hasNote : GoodIn wsX1_takeOut wsX1_hasNote := goodIn_r _ [9, 1, 10, 11, 12, 13, 14] (by decide +kernel) (by decide +kernel)
set_option maxRecDepth 20000 in
theorem gX1_takeOut_X1_hasNote : GoodIn wsX1_takeOut (wsV RX1 28 RX1 yX1_hasNote wsX1_hasNote) := goodIn_app (goodIn_of _ (by decide +kernel)) ggX1_takeOut_X1_hasNote
theorem dX1_takeOut_0 : decode cX1_takeOut 0 = .ok (.aload_n 0, 1) := by decide +kernel
theorem dX1_takeOut_1 : decode cX1_takeOut 1 = .ok (.iload_n 1, 1) := by decide +kernel
theorem dX1_takeOut_2 : decode cX1_takeOut 2 = .ok (.invokevirtual 28, 3) := by decide +kernel
theorem dX1_takeOut_5 : decode cX1_takeOut 5 = .ok (.ifCond .ne 4, 3) := by decide +kernel
theorem dX1_takeOut_8 : decode cX1_takeOut 8 = .ok (.return_, 1) := by decide +kernel
theorem dX1_takeOut_9 : decode cX1_takeOut 9 = .ok (.iload_n 1, 1) := by decide +kernel
theorem dX1_takeOut_10 : decode cX1_takeOut 10 = .ok (.istore_n 2, 1) := by decide +kernel
theorem dX1_takeOut_11 : decode cX1_takeOut 11 = .ok (.iload_n 2, 1) := by decide +kernel
theorem dX1_takeOut_12 : decode cX1_takeOut 12 = .ok (.iconst 1, 1) := by decide +kernel
theorem dX1_takeOut_13 : decode cX1_takeOut 13 = .ok (.iadd, 1) := by decide +kernel
theorem dX1_takeOut_14 : decode cX1_takeOut 14 = .ok (.aload_n 0, 1) := by decide +kernel
theorem dX1_takeOut_15 : decode cX1_takeOut 15 = .ok (.getfield 21, 3) := by decide +kernel
theorem dX1_takeOut_18 : decode cX1_takeOut 18 = .ok (.if_icmp .ge 51, 3) := by decide +kernel
theorem dX1_takeOut_21 : decode cX1_takeOut 21 = .ok (.aload_n 0, 1) := by decide +kernel
theorem dX1_takeOut_22 : decode cX1_takeOut 22 = .ok (.getfield 9, 3) := by decide +kernel
theorem dX1_takeOut_25 : decode cX1_takeOut 25 = .ok (.iload_n 2, 1) := by decide +kernel
theorem dX1_takeOut_26 : decode cX1_takeOut 26 = .ok (.aload_n 0, 1) := by decide +kernel
theorem dX1_takeOut_27 : decode cX1_takeOut 27 = .ok (.getfield 9, 3) := by decide +kernel
theorem dX1_takeOut_30 : decode cX1_takeOut 30 = .ok (.iload_n 2, 1) := by decide +kernel
theorem dX1_takeOut_31 : decode cX1_takeOut 31 = .ok (.iconst 1, 1) := by decide +kernel
theorem dX1_takeOut_32 : decode cX1_takeOut 32 = .ok (.iadd, 1) := by decide +kernel
theorem dX1_takeOut_33 : decode cX1_takeOut 33 = .ok (.iaload, 1) := by decide +kernel
theorem dX1_takeOut_34 : decode cX1_takeOut 34 = .ok (.iastore, 1) := by decide +kernel
theorem dX1_takeOut_35 : decode cX1_takeOut 35 = .ok (.aload_n 0, 1) := by decide +kernel
theorem dX1_takeOut_36 : decode cX1_takeOut 36 = .ok (.getfield 15, 3) := by decide +kernel
theorem dX1_takeOut_39 : decode cX1_takeOut 39 = .ok (.iload_n 2, 1) := by decide +kernel
theorem dX1_takeOut_40 : decode cX1_takeOut 40 = .ok (.aload_n 0, 1) := by decide +kernel
theorem dX1_takeOut_41 : decode cX1_takeOut 41 = .ok (.getfield 15, 3) := by decide +kernel
theorem dX1_takeOut_44 : decode cX1_takeOut 44 = .ok (.iload_n 2, 1) := by decide +kernel
theorem dX1_takeOut_45 : decode cX1_takeOut 45 = .ok (.iconst 1, 1) := by decide +kernel
theorem dX1_takeOut_46 : decode cX1_takeOut 46 = .ok (.iadd, 1) := by decide +kernel
theorem dX1_takeOut_47 : decode cX1_takeOut 47 = .ok (.iaload, 1) := by decide +kernel
theorem dX1_takeOut_48 : decode cX1_takeOut 48 = .ok (.iastore, 1) := by decide +kernel
theorem dX1_takeOut_49 : decode cX1_takeOut 49 = .ok (.aload_n 0, 1) := by decide +kernel
theorem dX1_takeOut_50 : decode cX1_takeOut 50 = .ok (.getfield 18, 3) := by decide +kernel
theorem dX1_takeOut_53 : decode cX1_takeOut 53 = .ok (.iload_n 2, 1) := by decide +kernel
theorem dX1_takeOut_54 : decode cX1_takeOut 54 = .ok (.aload_n 0, 1) := by decide +kernel
theorem dX1_takeOut_55 : decode cX1_takeOut 55 = .ok (.getfield 18, 3) := by decide +kernel
theorem dX1_takeOut_58 : decode cX1_takeOut 58 = .ok (.iload_n 2, 1) := by decide +kernel
theorem dX1_takeOut_59 : decode cX1_takeOut 59 = .ok (.iconst 1, 1) := by decide +kernel
theorem dX1_takeOut_60 : decode cX1_takeOut 60 = .ok (.iadd, 1) := by decide +kernel
theorem dX1_takeOut_61 : decode cX1_takeOut 61 = .ok (.iaload, 1) := by decide +kernel
theorem dX1_takeOut_62 : decode cX1_takeOut 62 = .ok (.iastore, 1) := by decide +kernel
theorem dX1_takeOut_63 : decode cX1_takeOut 63 = .ok (.iinc 2 1, 3) := by decide +kernel
theorem dX1_takeOut_66 : decode cX1_takeOut 66 = .ok (.goto (-55), 3) := by decide +kernel
theorem dX1_takeOut_69 : decode cX1_takeOut 69 = .ok (.aload_n 0, 1) := by decide +kernel
theorem dX1_takeOut_70 : decode cX1_takeOut 70 = .ok (.dup, 1) := by decide +kernel
theorem dX1_takeOut_71 : decode cX1_takeOut 71 = .ok (.getfield 21, 3) := by decide +kernel
theorem dX1_takeOut_74 : decode cX1_takeOut 74 = .ok (.iconst 1, 1) := by decide +kernel
theorem dX1_takeOut_75 : decode cX1_takeOut 75 = .ok (.isub, 1) := by decide +kernel
theorem dX1_takeOut_76 : decode cX1_takeOut 76 = .ok (.putfield 21, 3) := by decide +kernel
theorem dX1_takeOut_79 : decode cX1_takeOut 79 = .ok (.return_, 1) := by decide +kernel
theorem dX1_beatAt_0 : decode cX1_beatAt 0 = .ok (.aload_n 0, 1) := by decide +kernel
theorem dX1_beatAt_1 : decode cX1_beatAt 1 = .ok (.getfield 25, 3) := by decide +kernel
theorem dX1_beatAt_4 : decode cX1_beatAt 4 = .ok (.ifCond .le 12, 3) := by decide +kernel
theorem dX1_beatAt_7 : decode cX1_beatAt 7 = .ok (.iload_n 1, 1) := by decide +kernel
theorem dX1_beatAt_8 : decode cX1_beatAt 8 = .ok (.aload_n 0, 1) := by decide +kernel
theorem dX1_beatAt_9 : decode cX1_beatAt 9 = .ok (.getfield 25, 3) := by decide +kernel
theorem dX1_beatAt_12 : decode cX1_beatAt 12 = .ok (.irem, 1) := by decide +kernel
theorem dX1_beatAt_13 : decode cX1_beatAt 13 = .ok (.goto 4, 3) := by decide +kernel
theorem dX1_beatAt_16 : decode cX1_beatAt 16 = .ok (.iconst 0, 1) := by decide +kernel
theorem dX1_beatAt_17 : decode cX1_beatAt 17 = .ok (.ireturn, 1) := by decide +kernel
set_option maxRecDepth 20000 in
theorem ggX2_init_X1_init : GoodIn wsX2_init wsX1_init := goodIn_r _ [14, 15, 2, 3, 16, 17, 18, 19, 20, 21, 41, 42, 43, 44, 45] (by decide +kernel) (by decide +kernel)
set_option maxRecDepth 20000 in
theorem gX2_init_X1_init_n9 : GoodIn wsX2_init (wsX1_init) := ggX2_init_X1_init
set_option maxRecDepth 20000 in
theorem ggX2_init_X0_init : GoodIn wsX2_init wsX0_init := goodIn_r _ [23, 24, 2, 3, 16, 25, 26, 27, 28, 29, 30, 31, 32, 33, 34, 35, 36, 37, 38, 39, 40, 49, 50, 51, 52, 53, 54, 55, 56, 57, 58, 59, 60, 61, 62, 63] (by decide +kernel) (by decide +kernel)
set_option maxRecDepth 20000 in
theorem gX2_init_X0_init_n18 : GoodIn wsX2_init (wsX0_init) := ggX2_init_X0_init
theorem dX2_init_0 : decode cX2_init 0 = .ok (.aload_n 0, 1) := by decide +kernel
theorem dX2_init_1 : decode cX2_init 1 = .ok (.invokespecial 1, 3) := by decide +kernel
theorem dX2_init_4 : decode cX2_init 4 = .ok (.aload_n 0, 1) := by decide +kernel
theorem dX2_init_5 : decode cX2_init 5 = .ok (.new 7, 3) := by decide +kernel
theorem dX2_init_8 : decode cX2_init 8 = .ok (.dup, 1) := by decide +kernel
theorem dX2_init_9 : decode cX2_init 9 = .ok (.invokespecial 9, 3) := by decide +kernel
theorem dX2_init_12 : decode cX2_init 12 = .ok (.putfield 10, 3) := by decide +kernel
theorem dX2_init_15 : decode cX2_init 15 = .ok (.aload_n 0, 1) := by decide +kernel
theorem dX2_init_16 : decode cX2_init 16 = .ok (.new 16, 3) := by decide +kernel
theorem dX2_init_19 : decode cX2_init 19 = .ok (.dup, 1) := by decide +kernel
theorem dX2_init_20 : decode cX2_init 20 = .ok (.aload_n 0, 1) := by decide +kernel
theorem dX2_init_21 : decode cX2_init 21 = .ok (.getfield 10, 3) := by decide +kernel
theorem dX2_init_24 : decode cX2_init 24 = .ok (.invokespecial 18, 3) := by decide +kernel
theorem dX2_init_27 : decode cX2_init 27 = .ok (.putfield 21, 3) := by decide +kernel
theorem dX2_init_30 : decode cX2_init 30 = .ok (.aload_n 0, 1) := by decide +kernel
theorem dX2_init_31 : decode cX2_init 31 = .ok (.new 16, 3) := by decide +kernel
theorem dX2_init_34 : decode cX2_init 34 = .ok (.dup, 1) := by decide +kernel
theorem dX2_init_35 : decode cX2_init 35 = .ok (.aload_n 0, 1) := by decide +kernel
theorem dX2_init_36 : decode cX2_init 36 = .ok (.getfield 10, 3) := by decide +kernel
theorem dX2_init_39 : decode cX2_init 39 = .ok (.invokespecial 18, 3) := by decide +kernel
theorem dX2_init_42 : decode cX2_init 42 = .ok (.putfield 25, 3) := by decide +kernel
theorem dX2_init_45 : decode cX2_init 45 = .ok (.return_, 1) := by decide +kernel
set_option maxRecDepth 20000 in
theorem ggX2_set_X2_isWithin : GoodIn wsX2_set wsX2_isWithin := goodIn_r _ [9] (by decide +kernel) (by decide +kernel)
set_option maxRecDepth 20000 in
theorem gX2_set_X2_isWithin : GoodIn wsX2_set (va_wsS RX2 28 yX2_isWithin wsX2_isWithin) := goodIn_app (goodIn_of _ (by decide +kernel)) ggX2_set_X2_isWithin
set_option maxRecDepth 20000 in
theorem ggX2_set_X0_addGlass : GoodIn wsX2_set wsX0_addGlass := goodIn_r _ [13, 14, 15, 16, 17, 21, 22, 23, 24, 25, 26, 27, 28, 29, 30, 31, 32, 33, 34, 35] (by decide +kernel) (by decide +kernel)
set_option maxRecDepth 20000 in
theorem gX2_set_X0_addGlass_n41 : GoodIn wsX2_set (wsX0_addGlass) := ggX2_set_X0_addGlass
theorem dX2_set_0 : decode cX2_set 0 = .ok (.iload_n 1, 1) := by decide +kernel
theorem dX2_set_1 : decode cX2_set 1 = .ok (.iconst 0, 1) := by decide +kernel
theorem dX2_set_2 : decode cX2_set 2 = .ok (.iconst 3, 1) := by decide +kernel
theorem dX2_set_3 : decode cX2_set 3 = .ok (.invokestatic 28, 3) := by decide +kernel
theorem dX2_set_6 : decode cX2_set 6 = .ok (.ifCond .eq 13, 3) := by decide +kernel
theorem dX2_set_9 : decode cX2_set 9 = .ok (.iload_n 2, 1) := by decide +kernel
theorem dX2_set_10 : decode cX2_set 10 = .ok (.iconst 1, 1) := by decide +kernel
theorem dX2_set_11 : decode cX2_set 11 = .ok (.bipush 9, 2) := by decide +kernel
theorem dX2_set_13 : decode cX2_set 13 = .ok (.invokestatic 28, 3) := by decide +kernel
theorem dX2_set_16 : decode cX2_set 16 = .ok (.ifCond .ne 13, 3) := by decide +kernel
theorem dX2_set_19 : decode cX2_set 19 = .ok (.new 32, 3) := by decide +kernel
theorem dX2_set_22 : decode cX2_set 22 = .ok (.dup, 1) := by decide +kernel
theorem dX2_set_23 : decode cX2_set 23 = .ok (.ldc 34, 2) := by decide +kernel
theorem dX2_set_25 : decode cX2_set 25 = .ok (.invokespecial 36, 3) := by decide +kernel
theorem dX2_set_28 : decode cX2_set 28 = .ok (.athrow, 1) := by decide +kernel
theorem dX2_set_29 : decode cX2_set 29 = .ok (.iload_n 3, 1) := by decide +kernel
theorem dX2_set_30 : decode cX2_set 30 = .ok (.iconst 0, 1) := by decide +kernel
theorem dX2_set_31 : decode cX2_set 31 = .ok (.bipush 100, 2) := by decide +kernel
theorem dX2_set_33 : decode cX2_set 33 = .ok (.iload_n 2, 1) := by decide +kernel
theorem dX2_set_34 : decode cX2_set 34 = .ok (.imul, 1) := by decide +kernel
theorem dX2_set_35 : decode cX2_set 35 = .ok (.invokestatic 28, 3) := by decide +kernel
theorem dX2_set_38 : decode cX2_set 38 = .ok (.ifCond .ne 13, 3) := by decide +kernel
theorem dX2_set_41 : decode cX2_set 41 = .ok (.new 32, 3) := by decide +kernel
theorem dX2_set_44 : decode cX2_set 44 = .ok (.dup, 1) := by decide +kernel
theorem dX2_set_45 : decode cX2_set 45 = .ok (.ldc 39, 2) := by decide +kernel
theorem dX2_set_47 : decode cX2_set 47 = .ok (.invokespecial 36, 3) := by decide +kernel
theorem dX2_set_50 : decode cX2_set 50 = .ok (.athrow, 1) := by decide +kernel
theorem dX2_set_51 : decode cX2_set 51 = .ok (.aload_n 0, 1) := by decide +kernel
theorem dX2_set_52 : decode cX2_set 52 = .ok (.getfield 21, 3) := by decide +kernel
theorem dX2_set_55 : decode cX2_set 55 = .ok (.iload_n 1, 1) := by decide +kernel
theorem dX2_set_56 : decode cX2_set 56 = .ok (.iload_n 2, 1) := by decide +kernel
theorem dX2_set_57 : decode cX2_set 57 = .ok (.iload_n 3, 1) := by decide +kernel
theorem dX2_set_58 : decode cX2_set 58 = .ok (.invokevirtual 41, 3) := by decide +kernel
theorem dX2_set_61 : decode cX2_set 61 = .ok (.istore 4, 2) := by decide +kernel
theorem dX2_set_63 : decode cX2_set 63 = .ok (.iload 4, 2) := by decide +kernel
theorem dX2_set_65 : decode cX2_set 65 = .ok (.iconst (-1), 1) := by decide +kernel
theorem dX2_set_66 : decode cX2_set 66 = .ok (.if_icmp .ne 13, 3) := by decide +kernel
theorem dX2_set_69 : decode cX2_set 69 = .ok (.new 45, 3) := by decide +kernel
theorem dX2_set_72 : decode cX2_set 72 = .ok (.dup, 1) := by decide +kernel
theorem dX2_set_73 : decode cX2_set 73 = .ok (.ldc 47, 2) := by decide +kernel
theorem dX2_set_75 : decode cX2_set 75 = .ok (.invokespecial 49, 3) := by decide +kernel
theorem dX2_set_78 : decode cX2_set 78 = .ok (.athrow, 1) := by decide +kernel
theorem dX2_set_79 : decode cX2_set 79 = .ok (.iload 4, 2) := by decide +kernel
theorem dX2_set_81 : decode cX2_set 81 = .ok (.ireturn, 1) := by decide +kernel
set_option maxRecDepth 20000 in
theorem ggX2_drop_X0_hasGlass : GoodIn wsX2_drop wsX0_hasGlass := goodIn_r _ [11, 12, 39, 40, 41, 42, 43, 44, 45, 46, 47, 48, 49, 50, 51, 52, 53] (by decide +kernel) (by decide +kernel)
set_option maxRecDepth 20000 in
theorem gX2_drop_X0_hasGlass_n50 : GoodIn wsX2_drop (wsX0_hasGlass) := ggX2_drop_X0_hasGlass
set_option maxRecDepth 20000 in
theorem ggX2_drop_X2_isWithin : GoodIn wsX2_drop wsX2_isWithin := goodIn_r _ [16] (by decide +kernel) (by decide +kernel)
set_option maxRecDepth 20000 in
theorem gX2_drop_X2_isWithin : GoodIn wsX2_drop (va_wsS RX2 28 yX2_isWithin wsX2_isWithin) := goodIn_app (goodIn_of _ (by decide +kernel)) ggX2_drop_X2_isWithin
set_option maxRecDepth 20000 in
theorem ggX2_drop_X0_mostDrops : GoodIn wsX2_drop wsX0_mostDrops := goodIn_r _ [19, 20, 21, 8, 10, 9, 11, 12, 39, 40, 41, 42, 43, 44, 45, 46, 47, 48, 49, 50, 51, 52, 53] (by decide +kernel) (by decide +kernel)
set_option maxRecDepth 20000 in
theorem gX2_drop_X0_mostDrops_n71 : GoodIn wsX2_drop (wsX0_mostDrops) := ggX2_drop_X0_mostDrops
set_option maxRecDepth 20000 in
theorem ggX2_drop_X0_toneOf : GoodIn wsX2_drop wsX0_toneOf := goodIn_r _ [24, 20, 25, 26, 27, 28, 29, 21, 8, 10, 9, 11, 12, 30, 31, 32, 33, 34, 35, 39, 40, 41, 42, 43, 44, 45, 46, 47, 48, 49, 50, 51, 52, 53] (by decide +kernel) (by decide +kernel)
set_option maxRecDepth 20000 in
theorem gX2_drop_X0_toneOf_n77 : GoodIn wsX2_drop (wsX0_toneOf) := ggX2_drop_X0_toneOf
theorem dX2_drop_0 : decode cX2_drop 0 = .ok (.aload_n 0, 1) := by decide +kernel
theorem dX2_drop_1 : decode cX2_drop 1 = .ok (.getfield 21, 3) := by decide +kernel
theorem dX2_drop_4 : decode cX2_drop 4 = .ok (.iload_n 1, 1) := by decide +kernel
theorem dX2_drop_5 : decode cX2_drop 5 = .ok (.invokevirtual 50, 3) := by decide +kernel
theorem dX2_drop_8 : decode cX2_drop 8 = .ok (.ifCond .ne 13, 3) := by decide +kernel
theorem dX2_drop_11 : decode cX2_drop 11 = .ok (.new 54, 3) := by decide +kernel
theorem dX2_drop_14 : decode cX2_drop 14 = .ok (.dup, 1) := by decide +kernel
theorem dX2_drop_15 : decode cX2_drop 15 = .ok (.ldc 56, 2) := by decide +kernel
theorem dX2_drop_17 : decode cX2_drop 17 = .ok (.invokespecial 58, 3) := by decide +kernel
theorem dX2_drop_20 : decode cX2_drop 20 = .ok (.athrow, 1) := by decide +kernel
theorem dX2_drop_21 : decode cX2_drop 21 = .ok (.iload_n 2, 1) := by decide +kernel
theorem dX2_drop_22 : decode cX2_drop 22 = .ok (.ifCond .eq 16, 3) := by decide +kernel
theorem dX2_drop_25 : decode cX2_drop 25 = .ok (.iload_n 2, 1) := by decide +kernel
theorem dX2_drop_26 : decode cX2_drop 26 = .ok (.sipush (-200), 3) := by decide +kernel
theorem dX2_drop_29 : decode cX2_drop 29 = .ok (.sipush 200, 3) := by decide +kernel
theorem dX2_drop_32 : decode cX2_drop 32 = .ok (.invokestatic 28, 3) := by decide +kernel
theorem dX2_drop_35 : decode cX2_drop 35 = .ok (.ifCond .ne 13, 3) := by decide +kernel
theorem dX2_drop_38 : decode cX2_drop 38 = .ok (.new 32, 3) := by decide +kernel
theorem dX2_drop_41 : decode cX2_drop 41 = .ok (.dup, 1) := by decide +kernel
theorem dX2_drop_42 : decode cX2_drop 42 = .ok (.ldc 59, 2) := by decide +kernel
theorem dX2_drop_44 : decode cX2_drop 44 = .ok (.invokespecial 36, 3) := by decide +kernel
theorem dX2_drop_47 : decode cX2_drop 47 = .ok (.athrow, 1) := by decide +kernel
theorem dX2_drop_48 : decode cX2_drop 48 = .ok (.aload_n 0, 1) := by decide +kernel
theorem dX2_drop_49 : decode cX2_drop 49 = .ok (.getfield 21, 3) := by decide +kernel
theorem dX2_drop_52 : decode cX2_drop 52 = .ok (.getfield 61, 3) := by decide +kernel
theorem dX2_drop_55 : decode cX2_drop 55 = .ok (.iload_n 1, 1) := by decide +kernel
theorem dX2_drop_56 : decode cX2_drop 56 = .ok (.baload, 1) := by decide +kernel
theorem dX2_drop_57 : decode cX2_drop 57 = .ok (.ifCond .eq 13, 3) := by decide +kernel
theorem dX2_drop_60 : decode cX2_drop 60 = .ok (.new 45, 3) := by decide +kernel
theorem dX2_drop_63 : decode cX2_drop 63 = .ok (.dup, 1) := by decide +kernel
theorem dX2_drop_64 : decode cX2_drop 64 = .ok (.ldc 65, 2) := by decide +kernel
theorem dX2_drop_66 : decode cX2_drop 66 = .ok (.invokespecial 49, 3) := by decide +kernel
theorem dX2_drop_69 : decode cX2_drop 69 = .ok (.athrow, 1) := by decide +kernel
theorem dX2_drop_70 : decode cX2_drop 70 = .ok (.aload_n 0, 1) := by decide +kernel
theorem dX2_drop_71 : decode cX2_drop 71 = .ok (.getfield 21, 3) := by decide +kernel
theorem dX2_drop_74 : decode cX2_drop 74 = .ok (.getfield 67, 3) := by decide +kernel
theorem dX2_drop_77 : decode cX2_drop 77 = .ok (.iload_n 1, 1) := by decide +kernel
theorem dX2_drop_78 : decode cX2_drop 78 = .ok (.iaload, 1) := by decide +kernel
theorem dX2_drop_79 : decode cX2_drop 79 = .ok (.iload_n 2, 1) := by decide +kernel
theorem dX2_drop_80 : decode cX2_drop 80 = .ok (.iadd, 1) := by decide +kernel
theorem dX2_drop_81 : decode cX2_drop 81 = .ok (.istore_n 3, 1) := by decide +kernel
theorem dX2_drop_82 : decode cX2_drop 82 = .ok (.iload_n 3, 1) := by decide +kernel
theorem dX2_drop_83 : decode cX2_drop 83 = .ok (.iconst 0, 1) := by decide +kernel
theorem dX2_drop_84 : decode cX2_drop 84 = .ok (.aload_n 0, 1) := by decide +kernel
theorem dX2_drop_85 : decode cX2_drop 85 = .ok (.getfield 21, 3) := by decide +kernel
theorem dX2_drop_88 : decode cX2_drop 88 = .ok (.iload_n 1, 1) := by decide +kernel
theorem dX2_drop_89 : decode cX2_drop 89 = .ok (.invokevirtual 71, 3) := by decide +kernel
theorem dX2_drop_92 : decode cX2_drop 92 = .ok (.invokestatic 28, 3) := by decide +kernel
theorem dX2_drop_95 : decode cX2_drop 95 = .ok (.ifCond .ne 13, 3) := by decide +kernel
theorem dX2_drop_98 : decode cX2_drop 98 = .ok (.new 45, 3) := by decide +kernel
theorem dX2_drop_101 : decode cX2_drop 101 = .ok (.dup, 1) := by decide +kernel
theorem dX2_drop_102 : decode cX2_drop 102 = .ok (.ldc 75, 2) := by decide +kernel
theorem dX2_drop_104 : decode cX2_drop 104 = .ok (.invokespecial 49, 3) := by decide +kernel
theorem dX2_drop_107 : decode cX2_drop 107 = .ok (.athrow, 1) := by decide +kernel
theorem dX2_drop_108 : decode cX2_drop 108 = .ok (.aload_n 0, 1) := by decide +kernel
theorem dX2_drop_109 : decode cX2_drop 109 = .ok (.getfield 21, 3) := by decide +kernel
theorem dX2_drop_112 : decode cX2_drop 112 = .ok (.getfield 67, 3) := by decide +kernel
theorem dX2_drop_115 : decode cX2_drop 115 = .ok (.iload_n 1, 1) := by decide +kernel
theorem dX2_drop_116 : decode cX2_drop 116 = .ok (.iload_n 3, 1) := by decide +kernel
theorem dX2_drop_117 : decode cX2_drop 117 = .ok (.iastore, 1) := by decide +kernel
theorem dX2_drop_118 : decode cX2_drop 118 = .ok (.aload_n 0, 1) := by decide +kernel
theorem dX2_drop_119 : decode cX2_drop 119 = .ok (.getfield 21, 3) := by decide +kernel
theorem dX2_drop_122 : decode cX2_drop 122 = .ok (.iload_n 1, 1) := by decide +kernel
theorem dX2_drop_123 : decode cX2_drop 123 = .ok (.invokevirtual 77, 3) := by decide +kernel
theorem dX2_drop_126 : decode cX2_drop 126 = .ok (.ireturn, 1) := by decide +kernel
set_option maxRecDepth 20000 in
theorem ggX2_pump_X2_isWithin : GoodIn wsX2_pump wsX2_isWithin := goodIn_r _ [9] (by decide +kernel) (by decide +kernel)
set_option maxRecDepth 20000 in
theorem gX2_pump_X2_isWithin : GoodIn wsX2_pump (va_wsS RX2 28 yX2_isWithin wsX2_isWithin) := goodIn_app (goodIn_of _ (by decide +kernel)) ggX2_pump_X2_isWithin
theorem dX2_pump_0 : decode cX2_pump 0 = .ok (.iload_n 1, 1) := by decide +kernel
theorem dX2_pump_1 : decode cX2_pump 1 = .ok (.iconst 0, 1) := by decide +kernel
theorem dX2_pump_2 : decode cX2_pump 2 = .ok (.iconst 3, 1) := by decide +kernel
theorem dX2_pump_3 : decode cX2_pump 3 = .ok (.invokestatic 28, 3) := by decide +kernel
theorem dX2_pump_6 : decode cX2_pump 6 = .ok (.ifCond .ne 13, 3) := by decide +kernel
theorem dX2_pump_9 : decode cX2_pump 9 = .ok (.new 54, 3) := by decide +kernel
theorem dX2_pump_12 : decode cX2_pump 12 = .ok (.dup, 1) := by decide +kernel
theorem dX2_pump_13 : decode cX2_pump 13 = .ok (.ldc 80, 2) := by decide +kernel
theorem dX2_pump_15 : decode cX2_pump 15 = .ok (.invokespecial 58, 3) := by decide +kernel
theorem dX2_pump_18 : decode cX2_pump 18 = .ok (.athrow, 1) := by decide +kernel
theorem dX2_pump_19 : decode cX2_pump 19 = .ok (.iload_n 2, 1) := by decide +kernel
theorem dX2_pump_20 : decode cX2_pump 20 = .ok (.iconst 0, 1) := by decide +kernel
theorem dX2_pump_21 : decode cX2_pump 21 = .ok (.bipush 9, 2) := by decide +kernel
theorem dX2_pump_23 : decode cX2_pump 23 = .ok (.invokestatic 28, 3) := by decide +kernel
theorem dX2_pump_26 : decode cX2_pump 26 = .ok (.ifCond .ne 13, 3) := by decide +kernel
theorem dX2_pump_29 : decode cX2_pump 29 = .ok (.new 32, 3) := by decide +kernel
theorem dX2_pump_32 : decode cX2_pump 32 = .ok (.dup, 1) := by decide +kernel
theorem dX2_pump_33 : decode cX2_pump 33 = .ok (.ldc 82, 2) := by decide +kernel
theorem dX2_pump_35 : decode cX2_pump 35 = .ok (.invokespecial 36, 3) := by decide +kernel
theorem dX2_pump_38 : decode cX2_pump 38 = .ok (.athrow, 1) := by decide +kernel
theorem dX2_pump_39 : decode cX2_pump 39 = .ok (.aload_n 0, 1) := by decide +kernel
theorem dX2_pump_40 : decode cX2_pump 40 = .ok (.getfield 21, 3) := by decide +kernel
theorem dX2_pump_43 : decode cX2_pump 43 = .ok (.getfield 84, 3) := by decide +kernel
theorem dX2_pump_46 : decode cX2_pump 46 = .ok (.iload_n 1, 1) := by decide +kernel
theorem dX2_pump_47 : decode cX2_pump 47 = .ok (.iaload, 1) := by decide +kernel
theorem dX2_pump_48 : decode cX2_pump 48 = .ok (.istore_n 3, 1) := by decide +kernel
theorem dX2_pump_49 : decode cX2_pump 49 = .ok (.aload_n 0, 1) := by decide +kernel
theorem dX2_pump_50 : decode cX2_pump 50 = .ok (.getfield 21, 3) := by decide +kernel
theorem dX2_pump_53 : decode cX2_pump 53 = .ok (.getfield 84, 3) := by decide +kernel
theorem dX2_pump_56 : decode cX2_pump 56 = .ok (.iload_n 1, 1) := by decide +kernel
theorem dX2_pump_57 : decode cX2_pump 57 = .ok (.iload_n 2, 1) := by decide +kernel
theorem dX2_pump_58 : decode cX2_pump 58 = .ok (.iastore, 1) := by decide +kernel
theorem dX2_pump_59 : decode cX2_pump 59 = .ok (.iload_n 3, 1) := by decide +kernel
theorem dX2_pump_60 : decode cX2_pump 60 = .ok (.ireturn, 1) := by decide +kernel
set_option maxRecDepth 20000 in
theorem ggX2_glass_X0_hasGlass : GoodIn wsX2_glass wsX0_hasGlass := goodIn_r _ [7, 8, 43, 44, 45, 46, 47, 48, 49, 50, 51, 52, 53, 54, 55, 56, 57] (by decide +kernel) (by decide +kernel)
set_option maxRecDepth 20000 in
theorem gX2_glass_X0_hasGlass_n50 : GoodIn wsX2_glass (wsX0_hasGlass) := ggX2_glass_X0_hasGlass
set_option maxRecDepth 20000 in
theorem ggX2_glass_X2_isWithin : GoodIn wsX2_glass wsX2_isWithin := goodIn_r _ [12] (by decide +kernel) (by decide +kernel)
set_option maxRecDepth 20000 in
theorem gX2_glass_X2_isWithin : GoodIn wsX2_glass (va_wsS RX2 28 yX2_isWithin wsX2_isWithin) := goodIn_app (goodIn_of _ (by decide +kernel)) ggX2_glass_X2_isWithin
set_option maxRecDepth 20000 in
theorem ggX2_glass_X0_toneOf : GoodIn wsX2_glass wsX0_toneOf := goodIn_r _ [15, 16, 17, 18, 19, 20, 21, 22, 4, 6, 5, 7, 8, 23, 24, 25, 26, 27, 28, 43, 44, 45, 46, 47, 48, 49, 50, 51, 52, 53, 54, 55, 56, 57] (by decide +kernel) (by decide +kernel)
set_option maxRecDepth 20000 in
theorem gX2_glass_X0_toneOf_n77 : GoodIn wsX2_glass (wsX0_toneOf) := ggX2_glass_X0_toneOf
set_option maxRecDepth 20000 in
theorem ggX2_glass_X0_glassesBeatingAgainst : GoodIn wsX2_glass wsX0_glassesBeatingAgainst := goodIn_r _ [31, 8, 32, 33, 34, 5, 35, 36, 22, 4, 6, 7, 37, 13, 14, 15, 16, 17, 18, 19, 20, 21, 23, 24, 25, 26, 27, 28, 38, 11, 39, 10, 12, 43, 44, 45, 46, 47, 48, 49, 50, 51, 52, 53, 54, 55, 56, 57] (by decide +kernel) (by decide +kernel)
set_option maxRecDepth 20000 in
theorem gX2_glass_X0_glassesBeatingAgainst_n101 : GoodIn wsX2_glass (wsX0_glassesBeatingAgainst) := ggX2_glass_X0_glassesBeatingAgainst
theorem dX2_glass_0 : decode cX2_glass 0 = .ok (.aload_n 0, 1) := by decide +kernel
theorem dX2_glass_1 : decode cX2_glass 1 = .ok (.getfield 21, 3) := by decide +kernel
theorem dX2_glass_4 : decode cX2_glass 4 = .ok (.iload_n 1, 1) := by decide +kernel
theorem dX2_glass_5 : decode cX2_glass 5 = .ok (.invokevirtual 50, 3) := by decide +kernel
theorem dX2_glass_8 : decode cX2_glass 8 = .ok (.ifCond .eq 13, 3) := by decide +kernel
theorem dX2_glass_11 : decode cX2_glass 11 = .ok (.iload_n 2, 1) := by decide +kernel
theorem dX2_glass_12 : decode cX2_glass 12 = .ok (.iconst 0, 1) := by decide +kernel
theorem dX2_glass_13 : decode cX2_glass 13 = .ok (.bipush 7, 2) := by decide +kernel
theorem dX2_glass_15 : decode cX2_glass 15 = .ok (.invokestatic 28, 3) := by decide +kernel
theorem dX2_glass_18 : decode cX2_glass 18 = .ok (.ifCond .ne 13, 3) := by decide +kernel
theorem dX2_glass_21 : decode cX2_glass 21 = .ok (.new 54, 3) := by decide +kernel
theorem dX2_glass_24 : decode cX2_glass 24 = .ok (.dup, 1) := by decide +kernel
theorem dX2_glass_25 : decode cX2_glass 25 = .ok (.ldc 87, 2) := by decide +kernel
theorem dX2_glass_27 : decode cX2_glass 27 = .ok (.invokespecial 58, 3) := by decide +kernel
theorem dX2_glass_30 : decode cX2_glass 30 = .ok (.athrow, 1) := by decide +kernel
theorem dX2_glass_31 : decode cX2_glass 31 = .ok (.iload_n 2, 1) := by decide +kernel
theorem dX2_glass_32 : decode cX2_glass 32 = .ok (.tableswitch 121 0 6 #[44, 54, 64, 74, 83, 101, 111], 44) := by decide +kernel
theorem dX2_glass_76 : decode cX2_glass 76 = .ok (.aload_n 0, 1) := by decide +kernel
theorem dX2_glass_77 : decode cX2_glass 77 = .ok (.getfield 21, 3) := by decide +kernel
theorem dX2_glass_80 : decode cX2_glass 80 = .ok (.getfield 89, 3) := by decide +kernel
theorem dX2_glass_83 : decode cX2_glass 83 = .ok (.iload_n 1, 1) := by decide +kernel
theorem dX2_glass_84 : decode cX2_glass 84 = .ok (.iaload, 1) := by decide +kernel
theorem dX2_glass_85 : decode cX2_glass 85 = .ok (.ireturn, 1) := by decide +kernel
theorem dX2_glass_86 : decode cX2_glass 86 = .ok (.aload_n 0, 1) := by decide +kernel
theorem dX2_glass_87 : decode cX2_glass 87 = .ok (.getfield 21, 3) := by decide +kernel
theorem dX2_glass_90 : decode cX2_glass 90 = .ok (.getfield 92, 3) := by decide +kernel
theorem dX2_glass_93 : decode cX2_glass 93 = .ok (.iload_n 1, 1) := by decide +kernel
theorem dX2_glass_94 : decode cX2_glass 94 = .ok (.iaload, 1) := by decide +kernel
theorem dX2_glass_95 : decode cX2_glass 95 = .ok (.ireturn, 1) := by decide +kernel
theorem dX2_glass_96 : decode cX2_glass 96 = .ok (.aload_n 0, 1) := by decide +kernel
theorem dX2_glass_97 : decode cX2_glass 97 = .ok (.getfield 21, 3) := by decide +kernel
theorem dX2_glass_100 : decode cX2_glass 100 = .ok (.getfield 67, 3) := by decide +kernel
theorem dX2_glass_103 : decode cX2_glass 103 = .ok (.iload_n 1, 1) := by decide +kernel
theorem dX2_glass_104 : decode cX2_glass 104 = .ok (.iaload, 1) := by decide +kernel
theorem dX2_glass_105 : decode cX2_glass 105 = .ok (.ireturn, 1) := by decide +kernel
theorem dX2_glass_106 : decode cX2_glass 106 = .ok (.aload_n 0, 1) := by decide +kernel
theorem dX2_glass_107 : decode cX2_glass 107 = .ok (.getfield 21, 3) := by decide +kernel
theorem dX2_glass_110 : decode cX2_glass 110 = .ok (.iload_n 1, 1) := by decide +kernel
theorem dX2_glass_111 : decode cX2_glass 111 = .ok (.invokevirtual 77, 3) := by decide +kernel
theorem dX2_glass_114 : decode cX2_glass 114 = .ok (.ireturn, 1) := by decide +kernel
theorem dX2_glass_115 : decode cX2_glass 115 = .ok (.aload_n 0, 1) := by decide +kernel
theorem dX2_glass_116 : decode cX2_glass 116 = .ok (.getfield 21, 3) := by decide +kernel
theorem dX2_glass_119 : decode cX2_glass 119 = .ok (.getfield 61, 3) := by decide +kernel
theorem dX2_glass_122 : decode cX2_glass 122 = .ok (.iload_n 1, 1) := by decide +kernel
theorem dX2_glass_123 : decode cX2_glass 123 = .ok (.baload, 1) := by decide +kernel
theorem dX2_glass_124 : decode cX2_glass 124 = .ok (.ifCond .eq 7, 3) := by decide +kernel
theorem dX2_glass_127 : decode cX2_glass 127 = .ok (.iconst 1, 1) := by decide +kernel
theorem dX2_glass_128 : decode cX2_glass 128 = .ok (.goto 4, 3) := by decide +kernel
theorem dX2_glass_131 : decode cX2_glass 131 = .ok (.iconst 0, 1) := by decide +kernel
theorem dX2_glass_132 : decode cX2_glass 132 = .ok (.ireturn, 1) := by decide +kernel
theorem dX2_glass_133 : decode cX2_glass 133 = .ok (.aload_n 0, 1) := by decide +kernel
theorem dX2_glass_134 : decode cX2_glass 134 = .ok (.getfield 21, 3) := by decide +kernel
theorem dX2_glass_137 : decode cX2_glass 137 = .ok (.getfield 95, 3) := by decide +kernel
theorem dX2_glass_140 : decode cX2_glass 140 = .ok (.iload_n 1, 1) := by decide +kernel
theorem dX2_glass_141 : decode cX2_glass 141 = .ok (.iaload, 1) := by decide +kernel
theorem dX2_glass_142 : decode cX2_glass 142 = .ok (.ireturn, 1) := by decide +kernel
theorem dX2_glass_143 : decode cX2_glass 143 = .ok (.aload_n 0, 1) := by decide +kernel
theorem dX2_glass_144 : decode cX2_glass 144 = .ok (.getfield 21, 3) := by decide +kernel
theorem dX2_glass_147 : decode cX2_glass 147 = .ok (.getfield 98, 3) := by decide +kernel
theorem dX2_glass_150 : decode cX2_glass 150 = .ok (.iload_n 1, 1) := by decide +kernel
theorem dX2_glass_151 : decode cX2_glass 151 = .ok (.iaload, 1) := by decide +kernel
theorem dX2_glass_152 : decode cX2_glass 152 = .ok (.ireturn, 1) := by decide +kernel
theorem dX2_glass_153 : decode cX2_glass 153 = .ok (.aload_n 0, 1) := by decide +kernel
theorem dX2_glass_154 : decode cX2_glass 154 = .ok (.getfield 21, 3) := by decide +kernel
theorem dX2_glass_157 : decode cX2_glass 157 = .ok (.iload_n 1, 1) := by decide +kernel
theorem dX2_glass_158 : decode cX2_glass 158 = .ok (.invokevirtual 101, 3) := by decide +kernel
theorem dX2_glass_161 : decode cX2_glass 161 = .ok (.ireturn, 1) := by decide +kernel
set_option maxRecDepth 20000 in
theorem ggX2_row_X2_isWithin : GoodIn wsX2_row wsX2_isWithin := goodIn_r _ [7] (by decide +kernel) (by decide +kernel)
set_option maxRecDepth 20000 in
theorem gX2_row_X2_isWithin : GoodIn wsX2_row (va_wsS RX2 28 yX2_isWithin wsX2_isWithin) := goodIn_app (goodIn_of _ (by decide +kernel)) ggX2_row_X2_isWithin
set_option maxRecDepth 20000 in
theorem ggX2_row_X0_glassesInRow : GoodIn wsX2_row wsX0_glassesInRow := goodIn_r _ [11, 12, 13, 17, 18, 19, 20, 21, 22, 23, 24, 25, 26, 27, 28, 29, 30, 31] (by decide +kernel) (by decide +kernel)
set_option maxRecDepth 20000 in
theorem gX2_row_X0_glassesInRow_n109 : GoodIn wsX2_row (wsX0_glassesInRow) := ggX2_row_X0_glassesInRow
theorem dX2_row_0 : decode cX2_row 0 = .ok (.iload_n 1, 1) := by decide +kernel
theorem dX2_row_1 : decode cX2_row 1 = .ok (.iconst 0, 1) := by decide +kernel
theorem dX2_row_2 : decode cX2_row 2 = .ok (.iconst 3, 1) := by decide +kernel
theorem dX2_row_3 : decode cX2_row 3 = .ok (.invokestatic 28, 3) := by decide +kernel
theorem dX2_row_6 : decode cX2_row 6 = .ok (.ifCond .eq 12, 3) := by decide +kernel
theorem dX2_row_9 : decode cX2_row 9 = .ok (.iload_n 2, 1) := by decide +kernel
theorem dX2_row_10 : decode cX2_row 10 = .ok (.iconst 0, 1) := by decide +kernel
theorem dX2_row_11 : decode cX2_row 11 = .ok (.iconst 2, 1) := by decide +kernel
theorem dX2_row_12 : decode cX2_row 12 = .ok (.invokestatic 28, 3) := by decide +kernel
theorem dX2_row_15 : decode cX2_row 15 = .ok (.ifCond .ne 13, 3) := by decide +kernel
theorem dX2_row_18 : decode cX2_row 18 = .ok (.new 54, 3) := by decide +kernel
theorem dX2_row_21 : decode cX2_row 21 = .ok (.dup, 1) := by decide +kernel
theorem dX2_row_22 : decode cX2_row 22 = .ok (.ldc 104, 2) := by decide +kernel
theorem dX2_row_24 : decode cX2_row 24 = .ok (.invokespecial 58, 3) := by decide +kernel
theorem dX2_row_27 : decode cX2_row 27 = .ok (.athrow, 1) := by decide +kernel
theorem dX2_row_28 : decode cX2_row 28 = .ok (.iload_n 2, 1) := by decide +kernel
theorem dX2_row_29 : decode cX2_row 29 = .ok (.lookupswitch 47 #[(0, 27), (1, 37)], 27) := by decide +kernel
theorem dX2_row_56 : decode cX2_row 56 = .ok (.aload_n 0, 1) := by decide +kernel
theorem dX2_row_57 : decode cX2_row 57 = .ok (.getfield 21, 3) := by decide +kernel
theorem dX2_row_60 : decode cX2_row 60 = .ok (.getfield 106, 3) := by decide +kernel
theorem dX2_row_63 : decode cX2_row 63 = .ok (.iload_n 1, 1) := by decide +kernel
theorem dX2_row_64 : decode cX2_row 64 = .ok (.iaload, 1) := by decide +kernel
theorem dX2_row_65 : decode cX2_row 65 = .ok (.ireturn, 1) := by decide +kernel
theorem dX2_row_66 : decode cX2_row 66 = .ok (.aload_n 0, 1) := by decide +kernel
theorem dX2_row_67 : decode cX2_row 67 = .ok (.getfield 21, 3) := by decide +kernel
theorem dX2_row_70 : decode cX2_row 70 = .ok (.getfield 84, 3) := by decide +kernel
theorem dX2_row_73 : decode cX2_row 73 = .ok (.iload_n 1, 1) := by decide +kernel
theorem dX2_row_74 : decode cX2_row 74 = .ok (.iaload, 1) := by decide +kernel
theorem dX2_row_75 : decode cX2_row 75 = .ok (.ireturn, 1) := by decide +kernel
theorem dX2_row_76 : decode cX2_row 76 = .ok (.aload_n 0, 1) := by decide +kernel
theorem dX2_row_77 : decode cX2_row 77 = .ok (.getfield 21, 3) := by decide +kernel
theorem dX2_row_80 : decode cX2_row 80 = .ok (.iload_n 1, 1) := by decide +kernel
theorem dX2_row_81 : decode cX2_row 81 = .ok (.invokevirtual 109, 3) := by decide +kernel
theorem dX2_row_84 : decode cX2_row 84 = .ok (.ireturn, 1) := by decide +kernel
set_option maxRecDepth 20000 in
theorem ggX2_setLength_X2_isWithin : GoodIn wsX2_setLength wsX2_isWithin := goodIn_r _ [7] (by decide +kernel) (by decide +kernel)
set_option maxRecDepth 20000 in
theorem gX2_setLength_X2_isWithin : GoodIn wsX2_setLength (va_wsS RX2 28 yX2_isWithin wsX2_isWithin) := goodIn_app (goodIn_of _ (by decide +kernel)) ggX2_setLength_X2_isWithin
theorem dX2_setLength_0 : decode cX2_setLength 0 = .ok (.iload_n 1, 1) := by decide +kernel
theorem dX2_setLength_1 : decode cX2_setLength 1 = .ok (.iconst 1, 1) := by decide +kernel
theorem dX2_setLength_2 : decode cX2_setLength 2 = .ok (.bipush 64, 2) := by decide +kernel
theorem dX2_setLength_4 : decode cX2_setLength 4 = .ok (.invokestatic 28, 3) := by decide +kernel
theorem dX2_setLength_7 : decode cX2_setLength 7 = .ok (.ifCond .ne 13, 3) := by decide +kernel
theorem dX2_setLength_10 : decode cX2_setLength 10 = .ok (.new 32, 3) := by decide +kernel
theorem dX2_setLength_13 : decode cX2_setLength 13 = .ok (.dup, 1) := by decide +kernel
theorem dX2_setLength_14 : decode cX2_setLength 14 = .ok (.ldc 112, 2) := by decide +kernel
theorem dX2_setLength_16 : decode cX2_setLength 16 = .ok (.invokespecial 36, 3) := by decide +kernel
theorem dX2_setLength_19 : decode cX2_setLength 19 = .ok (.athrow, 1) := by decide +kernel
theorem dX2_setLength_20 : decode cX2_setLength 20 = .ok (.aload_n 0, 1) := by decide +kernel
theorem dX2_setLength_21 : decode cX2_setLength 21 = .ok (.getfield 10, 3) := by decide +kernel
theorem dX2_setLength_24 : decode cX2_setLength 24 = .ok (.getfield 114, 3) := by decide +kernel
theorem dX2_setLength_27 : decode cX2_setLength 27 = .ok (.istore_n 2, 1) := by decide +kernel
theorem dX2_setLength_28 : decode cX2_setLength 28 = .ok (.aload_n 0, 1) := by decide +kernel
theorem dX2_setLength_29 : decode cX2_setLength 29 = .ok (.getfield 10, 3) := by decide +kernel
theorem dX2_setLength_32 : decode cX2_setLength 32 = .ok (.iload_n 1, 1) := by decide +kernel
theorem dX2_setLength_33 : decode cX2_setLength 33 = .ok (.putfield 114, 3) := by decide +kernel
theorem dX2_setLength_36 : decode cX2_setLength 36 = .ok (.iload_n 2, 1) := by decide +kernel
theorem dX2_setLength_37 : decode cX2_setLength 37 = .ok (.ireturn, 1) := by decide +kernel
set_option maxRecDepth 20000 in
theorem ggX2_note_X2_isWithin : GoodIn wsX2_note wsX2_isWithin := goodIn_r _ [9] (by decide +kernel) (by decide +kernel)
set_option maxRecDepth 20000 in
theorem gX2_note_X2_isWithin : GoodIn wsX2_note (va_wsS RX2 28 yX2_isWithin wsX2_isWithin) := goodIn_app (goodIn_of _ (by decide +kernel)) ggX2_note_X2_isWithin
set_option maxRecDepth 20000 in
theorem ggX2_note_X1_write : GoodIn wsX2_note wsX1_write := goodIn_r _ [13, 14, 15, 16, 17, 21, 22, 23, 24, 25] (by decide +kernel) (by decide +kernel)
set_option maxRecDepth 20000 in
theorem gX2_note_X1_write_n122 : GoodIn wsX2_note (wsX1_write) := ggX2_note_X1_write
theorem dX2_note_0 : decode cX2_note 0 = .ok (.iload_n 1, 1) := by decide +kernel
theorem dX2_note_1 : decode cX2_note 1 = .ok (.iconst 0, 1) := by decide +kernel
theorem dX2_note_2 : decode cX2_note 2 = .ok (.bipush 63, 2) := by decide +kernel
theorem dX2_note_4 : decode cX2_note 4 = .ok (.invokestatic 28, 3) := by decide +kernel
theorem dX2_note_7 : decode cX2_note 7 = .ok (.ifCond .eq 13, 3) := by decide +kernel
theorem dX2_note_10 : decode cX2_note 10 = .ok (.iload_n 2, 1) := by decide +kernel
theorem dX2_note_11 : decode cX2_note 11 = .ok (.iconst 0, 1) := by decide +kernel
theorem dX2_note_12 : decode cX2_note 12 = .ok (.bipush 120, 2) := by decide +kernel
theorem dX2_note_14 : decode cX2_note 14 = .ok (.invokestatic 28, 3) := by decide +kernel
theorem dX2_note_17 : decode cX2_note 17 = .ok (.ifCond .ne 13, 3) := by decide +kernel
theorem dX2_note_20 : decode cX2_note 20 = .ok (.new 32, 3) := by decide +kernel
theorem dX2_note_23 : decode cX2_note 23 = .ok (.dup, 1) := by decide +kernel
theorem dX2_note_24 : decode cX2_note 24 = .ok (.ldc 118, 2) := by decide +kernel
theorem dX2_note_26 : decode cX2_note 26 = .ok (.invokespecial 36, 3) := by decide +kernel
theorem dX2_note_29 : decode cX2_note 29 = .ok (.athrow, 1) := by decide +kernel
theorem dX2_note_30 : decode cX2_note 30 = .ok (.iload_n 3, 1) := by decide +kernel
theorem dX2_note_31 : decode cX2_note 31 = .ok (.iconst 1, 1) := by decide +kernel
theorem dX2_note_32 : decode cX2_note 32 = .ok (.bipush 9, 2) := by decide +kernel
theorem dX2_note_34 : decode cX2_note 34 = .ok (.invokestatic 28, 3) := by decide +kernel
theorem dX2_note_37 : decode cX2_note 37 = .ok (.ifCond .ne 13, 3) := by decide +kernel
theorem dX2_note_40 : decode cX2_note 40 = .ok (.new 32, 3) := by decide +kernel
theorem dX2_note_43 : decode cX2_note 43 = .ok (.dup, 1) := by decide +kernel
theorem dX2_note_44 : decode cX2_note 44 = .ok (.ldc 120, 2) := by decide +kernel
theorem dX2_note_46 : decode cX2_note 46 = .ok (.invokespecial 36, 3) := by decide +kernel
theorem dX2_note_49 : decode cX2_note 49 = .ok (.athrow, 1) := by decide +kernel
theorem dX2_note_50 : decode cX2_note 50 = .ok (.aload_n 0, 1) := by decide +kernel
theorem dX2_note_51 : decode cX2_note 51 = .ok (.getfield 10, 3) := by decide +kernel
theorem dX2_note_54 : decode cX2_note 54 = .ok (.iload_n 1, 1) := by decide +kernel
theorem dX2_note_55 : decode cX2_note 55 = .ok (.iload_n 2, 1) := by decide +kernel
theorem dX2_note_56 : decode cX2_note 56 = .ok (.iload_n 3, 1) := by decide +kernel
theorem dX2_note_57 : decode cX2_note 57 = .ok (.invokevirtual 122, 3) := by decide +kernel
theorem dX2_note_60 : decode cX2_note 60 = .ok (.ifCond .ne 13, 3) := by decide +kernel
theorem dX2_note_63 : decode cX2_note 63 = .ok (.new 45, 3) := by decide +kernel
theorem dX2_note_66 : decode cX2_note 66 = .ok (.dup, 1) := by decide +kernel
theorem dX2_note_67 : decode cX2_note 67 = .ok (.ldc 125, 2) := by decide +kernel
theorem dX2_note_69 : decode cX2_note 69 = .ok (.invokespecial 49, 3) := by decide +kernel
theorem dX2_note_72 : decode cX2_note 72 = .ok (.athrow, 1) := by decide +kernel
theorem dX2_note_73 : decode cX2_note 73 = .ok (.aload_n 0, 1) := by decide +kernel
theorem dX2_note_74 : decode cX2_note 74 = .ok (.getfield 10, 3) := by decide +kernel
theorem dX2_note_77 : decode cX2_note 77 = .ok (.getfield 127, 3) := by decide +kernel
theorem dX2_note_80 : decode cX2_note 80 = .ok (.ireturn, 1) := by decide +kernel
set_option maxRecDepth 20000 in
theorem ggX2_strike_X1_hasNote : GoodIn wsX2_strike wsX1_hasNote := goodIn_r _ [7, 8, 19, 20, 21, 22, 23] (by decide +kernel) (by decide +kernel)
set_option maxRecDepth 20000 in
theorem gX2_strike_X1_hasNote_n130 : GoodIn wsX2_strike (wsX1_hasNote) := ggX2_strike_X1_hasNote
set_option maxRecDepth 20000 in
theorem ggX2_strike_X1_takeOut : GoodIn wsX2_strike wsX1_takeOut := goodIn_r _ [11, 8, 12, 13, 14, 15, 4, 6, 5, 7, 19, 20, 21, 22, 23] (by decide +kernel) (by decide +kernel)
set_option maxRecDepth 20000 in
theorem gX2_strike_X1_takeOut_n138 : GoodIn wsX2_strike (wsX1_takeOut) := ggX2_strike_X1_takeOut
theorem dX2_strike_0 : decode cX2_strike 0 = .ok (.aload_n 0, 1) := by decide +kernel
theorem dX2_strike_1 : decode cX2_strike 1 = .ok (.getfield 10, 3) := by decide +kernel
theorem dX2_strike_4 : decode cX2_strike 4 = .ok (.iload_n 1, 1) := by decide +kernel
theorem dX2_strike_5 : decode cX2_strike 5 = .ok (.invokevirtual 130, 3) := by decide +kernel
theorem dX2_strike_8 : decode cX2_strike 8 = .ok (.ifCond .ne 13, 3) := by decide +kernel
theorem dX2_strike_11 : decode cX2_strike 11 = .ok (.new 54, 3) := by decide +kernel
theorem dX2_strike_14 : decode cX2_strike 14 = .ok (.dup, 1) := by decide +kernel
theorem dX2_strike_15 : decode cX2_strike 15 = .ok (.ldc 133, 2) := by decide +kernel
theorem dX2_strike_17 : decode cX2_strike 17 = .ok (.invokespecial 58, 3) := by decide +kernel
theorem dX2_strike_20 : decode cX2_strike 20 = .ok (.athrow, 1) := by decide +kernel
theorem dX2_strike_21 : decode cX2_strike 21 = .ok (.aload_n 0, 1) := by decide +kernel
theorem dX2_strike_22 : decode cX2_strike 22 = .ok (.getfield 10, 3) := by decide +kernel
theorem dX2_strike_25 : decode cX2_strike 25 = .ok (.getfield 135, 3) := by decide +kernel
theorem dX2_strike_28 : decode cX2_strike 28 = .ok (.iload_n 1, 1) := by decide +kernel
theorem dX2_strike_29 : decode cX2_strike 29 = .ok (.iaload, 1) := by decide +kernel
theorem dX2_strike_30 : decode cX2_strike 30 = .ok (.istore_n 2, 1) := by decide +kernel
theorem dX2_strike_31 : decode cX2_strike 31 = .ok (.aload_n 0, 1) := by decide +kernel
theorem dX2_strike_32 : decode cX2_strike 32 = .ok (.getfield 10, 3) := by decide +kernel
theorem dX2_strike_35 : decode cX2_strike 35 = .ok (.iload_n 1, 1) := by decide +kernel
theorem dX2_strike_36 : decode cX2_strike 36 = .ok (.invokevirtual 138, 3) := by decide +kernel
theorem dX2_strike_39 : decode cX2_strike 39 = .ok (.iload_n 2, 1) := by decide +kernel
theorem dX2_strike_40 : decode cX2_strike 40 = .ok (.ireturn, 1) := by decide +kernel
set_option maxRecDepth 20000 in
theorem ggX2_written_X1_hasNote : GoodIn wsX2_written wsX1_hasNote := goodIn_r _ [7, 8, 16, 17, 18, 19, 20] (by decide +kernel) (by decide +kernel)
set_option maxRecDepth 20000 in
theorem gX2_written_X1_hasNote_n130 : GoodIn wsX2_written (wsX1_hasNote) := ggX2_written_X1_hasNote
set_option maxRecDepth 20000 in
theorem ggX2_written_X2_isWithin : GoodIn wsX2_written wsX2_isWithin := goodIn_r _ [12] (by decide +kernel) (by decide +kernel)
set_option maxRecDepth 20000 in
theorem gX2_written_X2_isWithin : GoodIn wsX2_written (va_wsS RX2 28 yX2_isWithin wsX2_isWithin) := goodIn_app (goodIn_of _ (by decide +kernel)) ggX2_written_X2_isWithin
theorem dX2_written_0 : decode cX2_written 0 = .ok (.aload_n 0, 1) := by decide +kernel
theorem dX2_written_1 : decode cX2_written 1 = .ok (.getfield 10, 3) := by decide +kernel
theorem dX2_written_4 : decode cX2_written 4 = .ok (.iload_n 1, 1) := by decide +kernel
theorem dX2_written_5 : decode cX2_written 5 = .ok (.invokevirtual 130, 3) := by decide +kernel
theorem dX2_written_8 : decode cX2_written 8 = .ok (.ifCond .eq 12, 3) := by decide +kernel
theorem dX2_written_11 : decode cX2_written 11 = .ok (.iload_n 2, 1) := by decide +kernel
theorem dX2_written_12 : decode cX2_written 12 = .ok (.iconst 0, 1) := by decide +kernel
theorem dX2_written_13 : decode cX2_written 13 = .ok (.iconst 2, 1) := by decide +kernel
theorem dX2_written_14 : decode cX2_written 14 = .ok (.invokestatic 28, 3) := by decide +kernel
theorem dX2_written_17 : decode cX2_written 17 = .ok (.ifCond .ne 13, 3) := by decide +kernel
theorem dX2_written_20 : decode cX2_written 20 = .ok (.new 54, 3) := by decide +kernel
theorem dX2_written_23 : decode cX2_written 23 = .ok (.dup, 1) := by decide +kernel
theorem dX2_written_24 : decode cX2_written 24 = .ok (.ldc 142, 2) := by decide +kernel
theorem dX2_written_26 : decode cX2_written 26 = .ok (.invokespecial 58, 3) := by decide +kernel
theorem dX2_written_29 : decode cX2_written 29 = .ok (.athrow, 1) := by decide +kernel
theorem dX2_written_30 : decode cX2_written 30 = .ok (.iload_n 2, 1) := by decide +kernel
theorem dX2_written_31 : decode cX2_written 31 = .ok (.lookupswitch 45 #[(0, 25), (1, 35)], 25) := by decide +kernel
theorem dX2_written_56 : decode cX2_written 56 = .ok (.aload_n 0, 1) := by decide +kernel
theorem dX2_written_57 : decode cX2_written 57 = .ok (.getfield 10, 3) := by decide +kernel
theorem dX2_written_60 : decode cX2_written 60 = .ok (.getfield 144, 3) := by decide +kernel
theorem dX2_written_63 : decode cX2_written 63 = .ok (.iload_n 1, 1) := by decide +kernel
theorem dX2_written_64 : decode cX2_written 64 = .ok (.iaload, 1) := by decide +kernel
theorem dX2_written_65 : decode cX2_written 65 = .ok (.ireturn, 1) := by decide +kernel
theorem dX2_written_66 : decode cX2_written 66 = .ok (.aload_n 0, 1) := by decide +kernel
theorem dX2_written_67 : decode cX2_written 67 = .ok (.getfield 10, 3) := by decide +kernel
theorem dX2_written_70 : decode cX2_written 70 = .ok (.getfield 135, 3) := by decide +kernel
theorem dX2_written_73 : decode cX2_written 73 = .ok (.iload_n 1, 1) := by decide +kernel
theorem dX2_written_74 : decode cX2_written 74 = .ok (.iaload, 1) := by decide +kernel
theorem dX2_written_75 : decode cX2_written 75 = .ok (.ireturn, 1) := by decide +kernel
theorem dX2_written_76 : decode cX2_written 76 = .ok (.aload_n 0, 1) := by decide +kernel
theorem dX2_written_77 : decode cX2_written 77 = .ok (.getfield 10, 3) := by decide +kernel
theorem dX2_written_80 : decode cX2_written 80 = .ok (.getfield 147, 3) := by decide +kernel
theorem dX2_written_83 : decode cX2_written 83 = .ok (.iload_n 1, 1) := by decide +kernel
theorem dX2_written_84 : decode cX2_written 84 = .ok (.iaload, 1) := by decide +kernel
theorem dX2_written_85 : decode cX2_written 85 = .ok (.ireturn, 1) := by decide +kernel
set_option maxRecDepth 20000 in
theorem ggX2_play_X2_isWithin : GoodIn wsX2_play wsX2_isWithin := goodIn_r _ [7] (by decide +kernel) (by decide +kernel)
set_option maxRecDepth 20000 in
theorem gX2_play_X2_isWithin : GoodIn wsX2_play (va_wsS RX2 28 yX2_isWithin wsX2_isWithin) := goodIn_app (goodIn_of _ (by decide +kernel)) ggX2_play_X2_isWithin
set_option maxRecDepth 20000 in
theorem ggX2_play_X0_letGoBy : GoodIn wsX2_play wsX0_letGoBy := goodIn_r _ [11, 12, 13, 14, 15, 9, 16, 17, 18, 19, 20, 21, 22, 23, 24, 25, 26, 27, 28, 29, 30, 31, 32, 33, 34, 35, 36, 37, 38, 39, 40, 41, 42, 43, 44, 45, 5, 6, 7, 46, 47, 48, 49, 50, 51, 52, 53, 54, 55, 56, 57, 58, 59, 60, 61, 62, 63, 64, 65, 66, 67, 68, 69, 70, 71, 72, 73, 74, 75, 76, 77, 78, 82, 83, 84, 85, 86, 87, 88, 89, 90, 91, 92, 93, 94, 95, 96, 97, 98, 99, 100, 101] (by decide +kernel) (by decide +kernel)
set_option maxRecDepth 20000 in
theorem gX2_play_X0_letGoBy_n155 : GoodIn wsX2_play (wsX0_letGoBy) := ggX2_play_X0_letGoBy
theorem dX2_play_0 : decode cX2_play 0 = .ok (.iload_n 1, 1) := by decide +kernel
theorem dX2_play_1 : decode cX2_play 1 = .ok (.iconst 1, 1) := by decide +kernel
theorem dX2_play_2 : decode cX2_play 2 = .ok (.sipush 200, 3) := by decide +kernel
theorem dX2_play_5 : decode cX2_play 5 = .ok (.invokestatic 28, 3) := by decide +kernel
theorem dX2_play_8 : decode cX2_play 8 = .ok (.ifCond .ne 13, 3) := by decide +kernel
theorem dX2_play_11 : decode cX2_play 11 = .ok (.new 32, 3) := by decide +kernel
theorem dX2_play_14 : decode cX2_play 14 = .ok (.dup, 1) := by decide +kernel
theorem dX2_play_15 : decode cX2_play 15 = .ok (.ldc 150, 2) := by decide +kernel
theorem dX2_play_17 : decode cX2_play 17 = .ok (.invokespecial 36, 3) := by decide +kernel
theorem dX2_play_20 : decode cX2_play 20 = .ok (.athrow, 1) := by decide +kernel
theorem dX2_play_21 : decode cX2_play 21 = .ok (.aload_n 0, 1) := by decide +kernel
theorem dX2_play_22 : decode cX2_play 22 = .ok (.getfield 21, 3) := by decide +kernel
theorem dX2_play_25 : decode cX2_play 25 = .ok (.getfield 152, 3) := by decide +kernel
theorem dX2_play_28 : decode cX2_play 28 = .ok (.istore_n 2, 1) := by decide +kernel
theorem dX2_play_29 : decode cX2_play 29 = .ok (.aload_n 0, 1) := by decide +kernel
theorem dX2_play_30 : decode cX2_play 30 = .ok (.getfield 21, 3) := by decide +kernel
theorem dX2_play_33 : decode cX2_play 33 = .ok (.iload_n 1, 1) := by decide +kernel
theorem dX2_play_34 : decode cX2_play 34 = .ok (.invokevirtual 155, 3) := by decide +kernel
theorem dX2_play_37 : decode cX2_play 37 = .ok (.aload_n 0, 1) := by decide +kernel
theorem dX2_play_38 : decode cX2_play 38 = .ok (.getfield 21, 3) := by decide +kernel
theorem dX2_play_41 : decode cX2_play 41 = .ok (.getfield 152, 3) := by decide +kernel
theorem dX2_play_44 : decode cX2_play 44 = .ok (.iload_n 2, 1) := by decide +kernel
theorem dX2_play_45 : decode cX2_play 45 = .ok (.isub, 1) := by decide +kernel
theorem dX2_play_46 : decode cX2_play 46 = .ok (.ireturn, 1) := by decide +kernel
set_option maxRecDepth 20000 in
theorem ggX2_count_X2_isWithin : GoodIn wsX2_count wsX2_isWithin := goodIn_r _ [8] (by decide +kernel) (by decide +kernel)
set_option maxRecDepth 20000 in
theorem gX2_count_X2_isWithin : GoodIn wsX2_count (va_wsS RX2 28 yX2_isWithin wsX2_isWithin) := goodIn_app (goodIn_of _ (by decide +kernel)) ggX2_count_X2_isWithin
set_option maxRecDepth 20000 in
theorem ggX2_count_X0_crackedGlasses : GoodIn wsX2_count wsX0_crackedGlasses := goodIn_r _ [12, 13, 14, 56, 57, 58, 59, 60, 61, 62, 63, 64, 65, 66, 67, 68, 69, 70] (by decide +kernel) (by decide +kernel)
set_option maxRecDepth 20000 in
theorem gX2_count_X0_crackedGlasses_n166 : GoodIn wsX2_count (wsX0_crackedGlasses) := ggX2_count_X0_crackedGlasses
set_option maxRecDepth 20000 in
theorem ggX2_count_X0_allAir : GoodIn wsX2_count wsX0_allAir := goodIn_r _ [17, 18, 56, 57, 58, 59, 60, 61, 62, 63, 64, 65, 66, 67, 68, 69, 70] (by decide +kernel) (by decide +kernel)
set_option maxRecDepth 20000 in
theorem gX2_count_X0_allAir_n176 : GoodIn wsX2_count (wsX0_allAir) := ggX2_count_X0_allAir
set_option maxRecDepth 20000 in
theorem ggX2_count_X0_pairsBeating : GoodIn wsX2_count wsX0_pairsBeating := goodIn_r _ [21, 13, 22, 23, 24, 10, 25, 26, 27, 28, 29, 30, 31, 32, 33, 34, 35, 36, 37, 38, 39, 40, 41, 42, 43, 44, 45, 46, 47, 48, 49, 50, 51, 7, 52, 6, 8, 56, 57, 58, 59, 60, 61, 62, 63, 64, 65, 66, 67, 68, 69, 70] (by decide +kernel) (by decide +kernel)
set_option maxRecDepth 20000 in
theorem gX2_count_X0_pairsBeating_n179 : GoodIn wsX2_count (wsX0_pairsBeating) := ggX2_count_X0_pairsBeating
theorem dX2_count_0 : decode cX2_count 0 = .ok (.iload_n 1, 1) := by decide +kernel
theorem dX2_count_1 : decode cX2_count 1 = .ok (.iconst 0, 1) := by decide +kernel
theorem dX2_count_2 : decode cX2_count 2 = .ok (.bipush 8, 2) := by decide +kernel
theorem dX2_count_4 : decode cX2_count 4 = .ok (.invokestatic 28, 3) := by decide +kernel
theorem dX2_count_7 : decode cX2_count 7 = .ok (.ifCond .ne 13, 3) := by decide +kernel
theorem dX2_count_10 : decode cX2_count 10 = .ok (.new 54, 3) := by decide +kernel
theorem dX2_count_13 : decode cX2_count 13 = .ok (.dup, 1) := by decide +kernel
theorem dX2_count_14 : decode cX2_count 14 = .ok (.ldc 158, 2) := by decide +kernel
theorem dX2_count_16 : decode cX2_count 16 = .ok (.invokespecial 58, 3) := by decide +kernel
theorem dX2_count_19 : decode cX2_count 19 = .ok (.athrow, 1) := by decide +kernel
theorem dX2_count_20 : decode cX2_count 20 = .ok (.iload_n 1, 1) := by decide +kernel
theorem dX2_count_21 : decode cX2_count 21 = .ok (.tableswitch 111 0 7 #[47, 55, 63, 71, 79, 87, 95, 103], 47) := by decide +kernel
theorem dX2_count_68 : decode cX2_count 68 = .ok (.aload_n 0, 1) := by decide +kernel
theorem dX2_count_69 : decode cX2_count 69 = .ok (.getfield 21, 3) := by decide +kernel
theorem dX2_count_72 : decode cX2_count 72 = .ok (.getfield 160, 3) := by decide +kernel
theorem dX2_count_75 : decode cX2_count 75 = .ok (.ireturn, 1) := by decide +kernel
theorem dX2_count_76 : decode cX2_count 76 = .ok (.aload_n 0, 1) := by decide +kernel
theorem dX2_count_77 : decode cX2_count 77 = .ok (.getfield 21, 3) := by decide +kernel
theorem dX2_count_80 : decode cX2_count 80 = .ok (.getfield 163, 3) := by decide +kernel
theorem dX2_count_83 : decode cX2_count 83 = .ok (.ireturn, 1) := by decide +kernel
theorem dX2_count_84 : decode cX2_count 84 = .ok (.aload_n 0, 1) := by decide +kernel
theorem dX2_count_85 : decode cX2_count 85 = .ok (.getfield 21, 3) := by decide +kernel
theorem dX2_count_88 : decode cX2_count 88 = .ok (.invokevirtual 166, 3) := by decide +kernel
theorem dX2_count_91 : decode cX2_count 91 = .ok (.ireturn, 1) := by decide +kernel
theorem dX2_count_92 : decode cX2_count 92 = .ok (.aload_n 0, 1) := by decide +kernel
theorem dX2_count_93 : decode cX2_count 93 = .ok (.getfield 10, 3) := by decide +kernel
theorem dX2_count_96 : decode cX2_count 96 = .ok (.getfield 127, 3) := by decide +kernel
theorem dX2_count_99 : decode cX2_count 99 = .ok (.ireturn, 1) := by decide +kernel
theorem dX2_count_100 : decode cX2_count 100 = .ok (.aload_n 0, 1) := by decide +kernel
theorem dX2_count_101 : decode cX2_count 101 = .ok (.getfield 21, 3) := by decide +kernel
theorem dX2_count_104 : decode cX2_count 104 = .ok (.getfield 152, 3) := by decide +kernel
theorem dX2_count_107 : decode cX2_count 107 = .ok (.ireturn, 1) := by decide +kernel
theorem dX2_count_108 : decode cX2_count 108 = .ok (.aload_n 0, 1) := by decide +kernel
theorem dX2_count_109 : decode cX2_count 109 = .ok (.getfield 21, 3) := by decide +kernel
theorem dX2_count_112 : decode cX2_count 112 = .ok (.getfield 170, 3) := by decide +kernel
theorem dX2_count_115 : decode cX2_count 115 = .ok (.ireturn, 1) := by decide +kernel
theorem dX2_count_116 : decode cX2_count 116 = .ok (.aload_n 0, 1) := by decide +kernel
theorem dX2_count_117 : decode cX2_count 117 = .ok (.getfield 21, 3) := by decide +kernel
theorem dX2_count_120 : decode cX2_count 120 = .ok (.getfield 173, 3) := by decide +kernel
theorem dX2_count_123 : decode cX2_count 123 = .ok (.ireturn, 1) := by decide +kernel
theorem dX2_count_124 : decode cX2_count 124 = .ok (.aload_n 0, 1) := by decide +kernel
theorem dX2_count_125 : decode cX2_count 125 = .ok (.getfield 21, 3) := by decide +kernel
theorem dX2_count_128 : decode cX2_count 128 = .ok (.invokevirtual 176, 3) := by decide +kernel
theorem dX2_count_131 : decode cX2_count 131 = .ok (.ireturn, 1) := by decide +kernel
theorem dX2_count_132 : decode cX2_count 132 = .ok (.aload_n 0, 1) := by decide +kernel
theorem dX2_count_133 : decode cX2_count 133 = .ok (.getfield 21, 3) := by decide +kernel
theorem dX2_count_136 : decode cX2_count 136 = .ok (.invokevirtual 179, 3) := by decide +kernel
theorem dX2_count_139 : decode cX2_count 139 = .ok (.ireturn, 1) := by decide +kernel
set_option maxRecDepth 20000 in
theorem ggX2_needs_X0_hasGlass : GoodIn wsX2_needs wsX0_hasGlass := goodIn_r _ [9, 10, 33, 34, 35, 36, 37, 38, 39, 40, 41, 42, 43, 44, 45, 46, 47] (by decide +kernel) (by decide +kernel)
set_option maxRecDepth 20000 in
theorem gX2_needs_X0_hasGlass_n50 : GoodIn wsX2_needs (wsX0_hasGlass) := ggX2_needs_X0_hasGlass
set_option maxRecDepth 20000 in
theorem ggX2_needs_X2_isWithin : GoodIn wsX2_needs wsX2_isWithin := goodIn_r _ [14] (by decide +kernel) (by decide +kernel)
set_option maxRecDepth 20000 in
theorem gX2_needs_X2_isWithin : GoodIn wsX2_needs (va_wsS RX2 28 yX2_isWithin wsX2_isWithin) := goodIn_app (goodIn_of _ (by decide +kernel)) ggX2_needs_X2_isWithin
set_option maxRecDepth 20000 in
theorem ggX2_needs_X0_fewestDropsFor : GoodIn wsX2_needs wsX0_fewestDropsFor := goodIn_r _ [17, 18, 19, 6, 8, 7, 9, 10, 20, 21, 22, 23, 24, 25, 26, 27, 28, 29, 12, 13, 14, 33, 34, 35, 36, 37, 38, 39, 40, 41, 42, 43, 44, 45, 46, 47] (by decide +kernel) (by decide +kernel)
set_option maxRecDepth 20000 in
theorem gX2_needs_X0_fewestDropsFor_n184 : GoodIn wsX2_needs (wsX0_fewestDropsFor) := ggX2_needs_X0_fewestDropsFor
theorem dX2_needs_0 : decode cX2_needs 0 = .ok (.aload_n 0, 1) := by decide +kernel
theorem dX2_needs_1 : decode cX2_needs 1 = .ok (.getfield 21, 3) := by decide +kernel
theorem dX2_needs_4 : decode cX2_needs 4 = .ok (.iload_n 1, 1) := by decide +kernel
theorem dX2_needs_5 : decode cX2_needs 5 = .ok (.invokevirtual 50, 3) := by decide +kernel
theorem dX2_needs_8 : decode cX2_needs 8 = .ok (.ifCond .ne 13, 3) := by decide +kernel
theorem dX2_needs_11 : decode cX2_needs 11 = .ok (.new 54, 3) := by decide +kernel
theorem dX2_needs_14 : decode cX2_needs 14 = .ok (.dup, 1) := by decide +kernel
theorem dX2_needs_15 : decode cX2_needs 15 = .ok (.ldc 56, 2) := by decide +kernel
theorem dX2_needs_17 : decode cX2_needs 17 = .ok (.invokespecial 58, 3) := by decide +kernel
theorem dX2_needs_20 : decode cX2_needs 20 = .ok (.athrow, 1) := by decide +kernel
theorem dX2_needs_21 : decode cX2_needs 21 = .ok (.iload_n 2, 1) := by decide +kernel
theorem dX2_needs_22 : decode cX2_needs 22 = .ok (.iconst 0, 1) := by decide +kernel
theorem dX2_needs_23 : decode cX2_needs 23 = .ok (.bipush 120, 2) := by decide +kernel
theorem dX2_needs_25 : decode cX2_needs 25 = .ok (.invokestatic 28, 3) := by decide +kernel
theorem dX2_needs_28 : decode cX2_needs 28 = .ok (.ifCond .ne 13, 3) := by decide +kernel
theorem dX2_needs_31 : decode cX2_needs 31 = .ok (.new 32, 3) := by decide +kernel
theorem dX2_needs_34 : decode cX2_needs 34 = .ok (.dup, 1) := by decide +kernel
theorem dX2_needs_35 : decode cX2_needs 35 = .ok (.ldc 182, 2) := by decide +kernel
theorem dX2_needs_37 : decode cX2_needs 37 = .ok (.invokespecial 36, 3) := by decide +kernel
theorem dX2_needs_40 : decode cX2_needs 40 = .ok (.athrow, 1) := by decide +kernel
theorem dX2_needs_41 : decode cX2_needs 41 = .ok (.aload_n 0, 1) := by decide +kernel
theorem dX2_needs_42 : decode cX2_needs 42 = .ok (.getfield 21, 3) := by decide +kernel
theorem dX2_needs_45 : decode cX2_needs 45 = .ok (.iload_n 1, 1) := by decide +kernel
theorem dX2_needs_46 : decode cX2_needs 46 = .ok (.iload_n 2, 1) := by decide +kernel
theorem dX2_needs_47 : decode cX2_needs 47 = .ok (.invokevirtual 184, 3) := by decide +kernel
theorem dX2_needs_50 : decode cX2_needs 50 = .ok (.ireturn, 1) := by decide +kernel
set_option maxRecDepth 20000 in
theorem ggX2_foresee_X2_isWithin : GoodIn wsX2_foresee wsX2_isWithin := goodIn_r _ [10] (by decide +kernel) (by decide +kernel)
set_option maxRecDepth 20000 in
theorem gX2_foresee_X2_isWithin : GoodIn wsX2_foresee (va_wsS RX2 28 yX2_isWithin wsX2_isWithin) := goodIn_app (goodIn_of _ (by decide +kernel)) ggX2_foresee_X2_isWithin
set_option maxRecDepth 20000 in
theorem ggX2_foresee_X0_takeOver : GoodIn wsX2_foresee wsX0_takeOver := goodIn_r _ [14, 15, 16, 17, 18, 19, 20, 21, 22, 23, 24, 25, 26, 27, 91, 92, 93, 94, 95, 96, 97, 98, 99, 100, 101, 102, 103, 104, 105] (by decide +kernel) (by decide +kernel)
set_option maxRecDepth 20000 in
theorem gX2_foresee_X0_takeOver_n192 : GoodIn wsX2_foresee (wsX0_takeOver) := ggX2_foresee_X0_takeOver
set_option maxRecDepth 20000 in
theorem ggX2_foresee_X0_letGoBy : GoodIn wsX2_foresee wsX0_letGoBy := goodIn_r _ [30, 24, 31, 32, 33, 12, 34, 22, 23, 35, 36, 37, 38, 39, 40, 41, 42, 15, 43, 44, 27, 45, 46, 47, 48, 49, 50, 51, 52, 53, 19, 16, 54, 55, 56, 57, 8, 9, 10, 58, 59, 60, 61, 17, 18, 62, 63, 64, 65, 66, 67, 68, 69, 70, 71, 72, 73, 74, 75, 76, 77, 78, 79, 80, 25, 26, 21, 20, 81, 82, 83, 84, 91, 92, 93, 94, 95, 96, 97, 98, 99, 100, 101, 102, 103, 104, 105, 106, 107, 108, 109, 110] (by decide +kernel) (by decide +kernel)
set_option maxRecDepth 20000 in
theorem gX2_foresee_X0_letGoBy_n155 : GoodIn wsX2_foresee (wsX0_letGoBy) := ggX2_foresee_X0_letGoBy
set_option maxRecDepth 20000 in
theorem ggX2_foresee_X0_crackedGlasses : GoodIn wsX2_foresee wsX0_crackedGlasses := goodIn_r _ [87, 15, 19, 91, 92, 93, 94, 95, 96, 97, 98, 99, 100, 101, 102, 103, 104, 105] (by decide +kernel) (by decide +kernel)
set_option maxRecDepth 20000 in
theorem gX2_foresee_X0_crackedGlasses_n166 : GoodIn wsX2_foresee (wsX0_crackedGlasses) := ggX2_foresee_X0_crackedGlasses
theorem dX2_foresee_0 : decode cX2_foresee 0 = .ok (.iload_n 1, 1) := by decide +kernel
theorem dX2_foresee_1 : decode cX2_foresee 1 = .ok (.iconst 1, 1) := by decide +kernel
theorem dX2_foresee_2 : decode cX2_foresee 2 = .ok (.sipush 150, 3) := by decide +kernel
theorem dX2_foresee_5 : decode cX2_foresee 5 = .ok (.invokestatic 28, 3) := by decide +kernel
theorem dX2_foresee_8 : decode cX2_foresee 8 = .ok (.ifCond .ne 13, 3) := by decide +kernel
theorem dX2_foresee_11 : decode cX2_foresee 11 = .ok (.new 32, 3) := by decide +kernel
theorem dX2_foresee_14 : decode cX2_foresee 14 = .ok (.dup, 1) := by decide +kernel
theorem dX2_foresee_15 : decode cX2_foresee 15 = .ok (.ldc 188, 2) := by decide +kernel
theorem dX2_foresee_17 : decode cX2_foresee 17 = .ok (.invokespecial 36, 3) := by decide +kernel
theorem dX2_foresee_20 : decode cX2_foresee 20 = .ok (.athrow, 1) := by decide +kernel
theorem dX2_foresee_21 : decode cX2_foresee 21 = .ok (.iload_n 2, 1) := by decide +kernel
theorem dX2_foresee_22 : decode cX2_foresee 22 = .ok (.iconst 0, 1) := by decide +kernel
theorem dX2_foresee_23 : decode cX2_foresee 23 = .ok (.iconst 3, 1) := by decide +kernel
theorem dX2_foresee_24 : decode cX2_foresee 24 = .ok (.invokestatic 28, 3) := by decide +kernel
theorem dX2_foresee_27 : decode cX2_foresee 27 = .ok (.ifCond .ne 13, 3) := by decide +kernel
theorem dX2_foresee_30 : decode cX2_foresee 30 = .ok (.new 54, 3) := by decide +kernel
theorem dX2_foresee_33 : decode cX2_foresee 33 = .ok (.dup, 1) := by decide +kernel
theorem dX2_foresee_34 : decode cX2_foresee 34 = .ok (.ldc 190, 2) := by decide +kernel
theorem dX2_foresee_36 : decode cX2_foresee 36 = .ok (.invokespecial 58, 3) := by decide +kernel
theorem dX2_foresee_39 : decode cX2_foresee 39 = .ok (.athrow, 1) := by decide +kernel
theorem dX2_foresee_40 : decode cX2_foresee 40 = .ok (.aload_n 0, 1) := by decide +kernel
theorem dX2_foresee_41 : decode cX2_foresee 41 = .ok (.getfield 25, 3) := by decide +kernel
theorem dX2_foresee_44 : decode cX2_foresee 44 = .ok (.aload_n 0, 1) := by decide +kernel
theorem dX2_foresee_45 : decode cX2_foresee 45 = .ok (.getfield 21, 3) := by decide +kernel
theorem dX2_foresee_48 : decode cX2_foresee 48 = .ok (.invokevirtual 192, 3) := by decide +kernel
theorem dX2_foresee_51 : decode cX2_foresee 51 = .ok (.aload_n 0, 1) := by decide +kernel
theorem dX2_foresee_52 : decode cX2_foresee 52 = .ok (.getfield 25, 3) := by decide +kernel
theorem dX2_foresee_55 : decode cX2_foresee 55 = .ok (.iload_n 1, 1) := by decide +kernel
theorem dX2_foresee_56 : decode cX2_foresee 56 = .ok (.invokevirtual 155, 3) := by decide +kernel
theorem dX2_foresee_59 : decode cX2_foresee 59 = .ok (.iload_n 2, 1) := by decide +kernel
theorem dX2_foresee_60 : decode cX2_foresee 60 = .ok (.tableswitch 76 0 2 #[28, 44, 60], 28) := by decide +kernel
theorem dX2_foresee_88 : decode cX2_foresee 88 = .ok (.aload_n 0, 1) := by decide +kernel
theorem dX2_foresee_89 : decode cX2_foresee 89 = .ok (.getfield 25, 3) := by decide +kernel
theorem dX2_foresee_92 : decode cX2_foresee 92 = .ok (.getfield 152, 3) := by decide +kernel
theorem dX2_foresee_95 : decode cX2_foresee 95 = .ok (.aload_n 0, 1) := by decide +kernel
theorem dX2_foresee_96 : decode cX2_foresee 96 = .ok (.getfield 21, 3) := by decide +kernel
theorem dX2_foresee_99 : decode cX2_foresee 99 = .ok (.getfield 152, 3) := by decide +kernel
theorem dX2_foresee_102 : decode cX2_foresee 102 = .ok (.isub, 1) := by decide +kernel
theorem dX2_foresee_103 : decode cX2_foresee 103 = .ok (.ireturn, 1) := by decide +kernel
theorem dX2_foresee_104 : decode cX2_foresee 104 = .ok (.aload_n 0, 1) := by decide +kernel
theorem dX2_foresee_105 : decode cX2_foresee 105 = .ok (.getfield 25, 3) := by decide +kernel
theorem dX2_foresee_108 : decode cX2_foresee 108 = .ok (.getfield 170, 3) := by decide +kernel
theorem dX2_foresee_111 : decode cX2_foresee 111 = .ok (.aload_n 0, 1) := by decide +kernel
theorem dX2_foresee_112 : decode cX2_foresee 112 = .ok (.getfield 21, 3) := by decide +kernel
theorem dX2_foresee_115 : decode cX2_foresee 115 = .ok (.getfield 170, 3) := by decide +kernel
theorem dX2_foresee_118 : decode cX2_foresee 118 = .ok (.isub, 1) := by decide +kernel
theorem dX2_foresee_119 : decode cX2_foresee 119 = .ok (.ireturn, 1) := by decide +kernel
theorem dX2_foresee_120 : decode cX2_foresee 120 = .ok (.aload_n 0, 1) := by decide +kernel
theorem dX2_foresee_121 : decode cX2_foresee 121 = .ok (.getfield 25, 3) := by decide +kernel
theorem dX2_foresee_124 : decode cX2_foresee 124 = .ok (.getfield 173, 3) := by decide +kernel
theorem dX2_foresee_127 : decode cX2_foresee 127 = .ok (.aload_n 0, 1) := by decide +kernel
theorem dX2_foresee_128 : decode cX2_foresee 128 = .ok (.getfield 21, 3) := by decide +kernel
theorem dX2_foresee_131 : decode cX2_foresee 131 = .ok (.getfield 173, 3) := by decide +kernel
theorem dX2_foresee_134 : decode cX2_foresee 134 = .ok (.isub, 1) := by decide +kernel
theorem dX2_foresee_135 : decode cX2_foresee 135 = .ok (.ireturn, 1) := by decide +kernel
theorem dX2_foresee_136 : decode cX2_foresee 136 = .ok (.aload_n 0, 1) := by decide +kernel
theorem dX2_foresee_137 : decode cX2_foresee 137 = .ok (.getfield 25, 3) := by decide +kernel
theorem dX2_foresee_140 : decode cX2_foresee 140 = .ok (.invokevirtual 166, 3) := by decide +kernel
theorem dX2_foresee_143 : decode cX2_foresee 143 = .ok (.ireturn, 1) := by decide +kernel
set_option maxRecDepth 20000 in
theorem ggX2_advise_X2_isWithin : GoodIn wsX2_advise wsX2_isWithin := goodIn_r _ [8] (by decide +kernel) (by decide +kernel)
set_option maxRecDepth 20000 in
theorem gX2_advise_X2_isWithin : GoodIn wsX2_advise (va_wsS RX2 28 yX2_isWithin wsX2_isWithin) := goodIn_app (goodIn_of _ (by decide +kernel)) ggX2_advise_X2_isWithin
set_option maxRecDepth 20000 in
theorem ggX2_advise_X0_takeOver : GoodIn wsX2_advise wsX0_takeOver := goodIn_r _ [12, 13, 14, 15, 16, 17, 18, 19, 20, 21, 22, 23, 24, 25, 105, 106, 107, 108, 109, 110, 111, 112, 113, 114, 115, 116, 117, 118, 119] (by decide +kernel) (by decide +kernel)
set_option maxRecDepth 20000 in
theorem gX2_advise_X0_takeOver_n192 : GoodIn wsX2_advise (wsX0_takeOver) := ggX2_advise_X0_takeOver
set_option maxRecDepth 20000 in
theorem ggX2_advise_X0_letGoBy : GoodIn wsX2_advise wsX0_letGoBy := goodIn_r _ [28, 22, 29, 30, 31, 10, 32, 20, 21, 33, 34, 35, 36, 37, 38, 39, 40, 13, 41, 42, 25, 43, 44, 45, 46, 47, 48, 49, 50, 51, 17, 14, 52, 53, 54, 55, 6, 7, 8, 56, 57, 58, 59, 15, 16, 60, 61, 62, 63, 64, 65, 66, 67, 68, 69, 70, 71, 72, 73, 74, 75, 76, 77, 78, 23, 24, 19, 18, 79, 80, 81, 82, 105, 106, 107, 108, 109, 110, 111, 112, 113, 114, 115, 116, 117, 118, 119, 120, 121, 122, 123, 124] (by decide +kernel) (by decide +kernel)
set_option maxRecDepth 20000 in
theorem gX2_advise_X0_letGoBy_n155 : GoodIn wsX2_advise (wsX0_letGoBy) := ggX2_advise_X0_letGoBy
set_option maxRecDepth 20000 in
theorem ggX2_advise_X0_canBeTuned : GoodIn wsX2_advise wsX0_canBeTuned := goodIn_r _ [85, 17, 63, 64, 65, 10, 66, 13, 86, 87, 88, 89, 15, 67, 68, 69, 70, 71, 72, 90, 91, 92, 93, 6, 7, 8, 105, 106, 107, 108, 109, 110, 111, 112, 113, 114, 115, 116, 117, 118, 119] (by decide +kernel) (by decide +kernel)
set_option maxRecDepth 20000 in
theorem gX2_advise_X0_canBeTuned_n198 : GoodIn wsX2_advise (wsX0_canBeTuned) := ggX2_advise_X0_canBeTuned
set_option maxRecDepth 20000 in
theorem ggX2_advise_X2_inTuneIfTuned : GoodIn wsX2_advise wsX2_inTuneIfTuned := goodIn_r _ [97, 3, 4, 9, 10, 11, 12, 13, 14, 15, 16, 17, 18, 19, 20, 21, 22, 23, 24, 25, 98, 99, 100, 101, 83, 84, 85, 63, 64, 65, 66, 86, 87, 88, 89, 67, 68, 69, 70, 71, 72, 90, 91, 92, 93, 6, 7, 8, 26, 27, 28, 29, 30, 31, 32, 33, 34, 35, 36, 37, 38, 39, 40, 41, 42, 43, 44, 45, 46, 47, 48, 49, 50, 51, 52, 53, 54, 55, 56, 57, 58, 59, 60, 61, 62, 73, 74, 75, 76, 77, 78, 79, 80, 81, 82, 102, 103, 104, 105, 106, 107, 108, 109, 110, 111, 112, 113, 114, 115, 116, 117, 118, 119, 120, 121, 122, 123, 124] (by decide +kernel) (by decide +kernel)
set_option maxRecDepth 20000 in
theorem gX2_advise_X2_inTuneIfTuned : GoodIn wsX2_advise (wsV RX2 202 RX2 yX2_inTuneIfTuned wsX2_inTuneIfTuned) := goodIn_app (goodIn_of _ (by decide +kernel)) ggX2_advise_X2_inTuneIfTuned
theorem dX2_advise_0 : decode cX2_advise 0 = .ok (.iload_n 1, 1) := by decide +kernel
theorem dX2_advise_1 : decode cX2_advise 1 = .ok (.iconst 0, 1) := by decide +kernel
theorem dX2_advise_2 : decode cX2_advise 2 = .ok (.bipush 120, 2) := by decide +kernel
theorem dX2_advise_4 : decode cX2_advise 4 = .ok (.invokestatic 28, 3) := by decide +kernel
theorem dX2_advise_7 : decode cX2_advise 7 = .ok (.ifCond .ne 13, 3) := by decide +kernel
theorem dX2_advise_10 : decode cX2_advise 10 = .ok (.new 32, 3) := by decide +kernel
theorem dX2_advise_13 : decode cX2_advise 13 = .ok (.dup, 1) := by decide +kernel
theorem dX2_advise_14 : decode cX2_advise 14 = .ok (.ldc 182, 2) := by decide +kernel
theorem dX2_advise_16 : decode cX2_advise 16 = .ok (.invokespecial 36, 3) := by decide +kernel
theorem dX2_advise_19 : decode cX2_advise 19 = .ok (.athrow, 1) := by decide +kernel
theorem dX2_advise_20 : decode cX2_advise 20 = .ok (.iload_n 2, 1) := by decide +kernel
theorem dX2_advise_21 : decode cX2_advise 21 = .ok (.iconst 1, 1) := by decide +kernel
theorem dX2_advise_22 : decode cX2_advise 22 = .ok (.bipush 80, 2) := by decide +kernel
theorem dX2_advise_24 : decode cX2_advise 24 = .ok (.invokestatic 28, 3) := by decide +kernel
theorem dX2_advise_27 : decode cX2_advise 27 = .ok (.ifCond .ne 13, 3) := by decide +kernel
theorem dX2_advise_30 : decode cX2_advise 30 = .ok (.new 32, 3) := by decide +kernel
theorem dX2_advise_33 : decode cX2_advise 33 = .ok (.dup, 1) := by decide +kernel
theorem dX2_advise_34 : decode cX2_advise 34 = .ok (.ldc 196, 2) := by decide +kernel
theorem dX2_advise_36 : decode cX2_advise 36 = .ok (.invokespecial 36, 3) := by decide +kernel
theorem dX2_advise_39 : decode cX2_advise 39 = .ok (.athrow, 1) := by decide +kernel
theorem dX2_advise_40 : decode cX2_advise 40 = .ok (.aload_n 0, 1) := by decide +kernel
theorem dX2_advise_41 : decode cX2_advise 41 = .ok (.getfield 25, 3) := by decide +kernel
theorem dX2_advise_44 : decode cX2_advise 44 = .ok (.aload_n 0, 1) := by decide +kernel
theorem dX2_advise_45 : decode cX2_advise 45 = .ok (.getfield 21, 3) := by decide +kernel
theorem dX2_advise_48 : decode cX2_advise 48 = .ok (.invokevirtual 192, 3) := by decide +kernel
theorem dX2_advise_51 : decode cX2_advise 51 = .ok (.aload_n 0, 1) := by decide +kernel
theorem dX2_advise_52 : decode cX2_advise 52 = .ok (.getfield 25, 3) := by decide +kernel
theorem dX2_advise_55 : decode cX2_advise 55 = .ok (.iload_n 2, 1) := by decide +kernel
theorem dX2_advise_56 : decode cX2_advise 56 = .ok (.invokevirtual 155, 3) := by decide +kernel
theorem dX2_advise_59 : decode cX2_advise 59 = .ok (.aload_n 0, 1) := by decide +kernel
theorem dX2_advise_60 : decode cX2_advise 60 = .ok (.getfield 25, 3) := by decide +kernel
theorem dX2_advise_63 : decode cX2_advise 63 = .ok (.getfield 170, 3) := by decide +kernel
theorem dX2_advise_66 : decode cX2_advise 66 = .ok (.istore_n 3, 1) := by decide +kernel
theorem dX2_advise_67 : decode cX2_advise 67 = .ok (.iconst (-1), 1) := by decide +kernel
theorem dX2_advise_68 : decode cX2_advise 68 = .ok (.istore 4, 2) := by decide +kernel
theorem dX2_advise_70 : decode cX2_advise 70 = .ok (.iconst 0, 1) := by decide +kernel
theorem dX2_advise_71 : decode cX2_advise 71 = .ok (.istore 5, 2) := by decide +kernel
theorem dX2_advise_73 : decode cX2_advise 73 = .ok (.iload 5, 2) := by decide +kernel
theorem dX2_advise_75 : decode cX2_advise 75 = .ok (.aload_n 0, 1) := by decide +kernel
theorem dX2_advise_76 : decode cX2_advise 76 = .ok (.getfield 21, 3) := by decide +kernel
theorem dX2_advise_79 : decode cX2_advise 79 = .ok (.getfield 163, 3) := by decide +kernel
theorem dX2_advise_82 : decode cX2_advise 82 = .ok (.if_icmp .ge 45, 3) := by decide +kernel
theorem dX2_advise_85 : decode cX2_advise 85 = .ok (.aload_n 0, 1) := by decide +kernel
theorem dX2_advise_86 : decode cX2_advise 86 = .ok (.getfield 21, 3) := by decide +kernel
theorem dX2_advise_89 : decode cX2_advise 89 = .ok (.iload 5, 2) := by decide +kernel
theorem dX2_advise_91 : decode cX2_advise 91 = .ok (.iload_n 1, 1) := by decide +kernel
theorem dX2_advise_92 : decode cX2_advise 92 = .ok (.invokevirtual 198, 3) := by decide +kernel
theorem dX2_advise_95 : decode cX2_advise 95 = .ok (.ifCond .eq 26, 3) := by decide +kernel
theorem dX2_advise_98 : decode cX2_advise 98 = .ok (.aload_n 0, 1) := by decide +kernel
theorem dX2_advise_99 : decode cX2_advise 99 = .ok (.iload 5, 2) := by decide +kernel
theorem dX2_advise_101 : decode cX2_advise 101 = .ok (.iload_n 1, 1) := by decide +kernel
theorem dX2_advise_102 : decode cX2_advise 102 = .ok (.iload_n 2, 1) := by decide +kernel
theorem dX2_advise_103 : decode cX2_advise 103 = .ok (.invokevirtual 202, 3) := by decide +kernel
theorem dX2_advise_106 : decode cX2_advise 106 = .ok (.istore 6, 2) := by decide +kernel
theorem dX2_advise_108 : decode cX2_advise 108 = .ok (.iload 6, 2) := by decide +kernel
theorem dX2_advise_110 : decode cX2_advise 110 = .ok (.iload_n 3, 1) := by decide +kernel
theorem dX2_advise_111 : decode cX2_advise 111 = .ok (.if_icmp .le 10, 3) := by decide +kernel
theorem dX2_advise_114 : decode cX2_advise 114 = .ok (.iload 6, 2) := by decide +kernel
theorem dX2_advise_116 : decode cX2_advise 116 = .ok (.istore_n 3, 1) := by decide +kernel
theorem dX2_advise_117 : decode cX2_advise 117 = .ok (.iload 5, 2) := by decide +kernel
theorem dX2_advise_119 : decode cX2_advise 119 = .ok (.istore 4, 2) := by decide +kernel
theorem dX2_advise_121 : decode cX2_advise 121 = .ok (.iinc 5 1, 3) := by decide +kernel
theorem dX2_advise_124 : decode cX2_advise 124 = .ok (.goto (-51), 3) := by decide +kernel
theorem dX2_advise_127 : decode cX2_advise 127 = .ok (.iload 4, 2) := by decide +kernel
theorem dX2_advise_129 : decode cX2_advise 129 = .ok (.ireturn, 1) := by decide +kernel
set_option maxRecDepth 20000 in
theorem ggX2_wants_X2_isWithin : GoodIn wsX2_wants wsX2_isWithin := goodIn_r _ [8] (by decide +kernel) (by decide +kernel)
set_option maxRecDepth 20000 in
theorem gX2_wants_X2_isWithin : GoodIn wsX2_wants (va_wsS RX2 28 yX2_isWithin wsX2_isWithin) := goodIn_app (goodIn_of _ (by decide +kernel)) ggX2_wants_X2_isWithin
set_option maxRecDepth 20000 in
theorem ggX2_wants_X2_missedIfPumped : GoodIn wsX2_wants wsX2_missedIfPumped := goodIn_r _ [12, 13, 14, 15, 16, 17, 18, 19, 20, 21, 22, 23, 24, 25, 26, 27, 28, 29, 30, 31, 32, 33, 34, 6, 7, 8, 35, 36, 37, 38, 39, 40, 41, 42, 43, 44, 45, 46, 47, 48, 49, 50, 51, 52, 53, 54, 55, 56, 57, 58, 59, 60, 61, 62, 63, 64, 65, 66, 67, 68, 69, 70, 71, 72, 73, 74, 75, 76, 77, 78, 79, 80, 81, 82, 83, 84, 85, 86, 87, 88, 89, 90, 91, 92, 93, 94, 95, 96, 97, 98, 99, 100, 101, 102, 103, 104, 105, 106, 107, 108, 109, 110, 111, 112, 113, 114] (by decide +kernel) (by decide +kernel)
set_option maxRecDepth 20000 in
theorem gX2_wants_X2_missedIfPumped : GoodIn wsX2_wants (wsV RX2 205 RX2 yX2_missedIfPumped wsX2_missedIfPumped) := goodIn_app (goodIn_of _ (by decide +kernel)) ggX2_wants_X2_missedIfPumped
theorem dX2_wants_0 : decode cX2_wants 0 = .ok (.iload_n 1, 1) := by decide +kernel
theorem dX2_wants_1 : decode cX2_wants 1 = .ok (.iconst 0, 1) := by decide +kernel
theorem dX2_wants_2 : decode cX2_wants 2 = .ok (.iconst 3, 1) := by decide +kernel
theorem dX2_wants_3 : decode cX2_wants 3 = .ok (.invokestatic 28, 3) := by decide +kernel
theorem dX2_wants_6 : decode cX2_wants 6 = .ok (.ifCond .ne 13, 3) := by decide +kernel
theorem dX2_wants_9 : decode cX2_wants 9 = .ok (.new 54, 3) := by decide +kernel
theorem dX2_wants_12 : decode cX2_wants 12 = .ok (.dup, 1) := by decide +kernel
theorem dX2_wants_13 : decode cX2_wants 13 = .ok (.ldc 80, 2) := by decide +kernel
theorem dX2_wants_15 : decode cX2_wants 15 = .ok (.invokespecial 58, 3) := by decide +kernel
theorem dX2_wants_18 : decode cX2_wants 18 = .ok (.athrow, 1) := by decide +kernel
theorem dX2_wants_19 : decode cX2_wants 19 = .ok (.iload_n 2, 1) := by decide +kernel
theorem dX2_wants_20 : decode cX2_wants 20 = .ok (.iconst 1, 1) := by decide +kernel
theorem dX2_wants_21 : decode cX2_wants 21 = .ok (.bipush 80, 2) := by decide +kernel
theorem dX2_wants_23 : decode cX2_wants 23 = .ok (.invokestatic 28, 3) := by decide +kernel
theorem dX2_wants_26 : decode cX2_wants 26 = .ok (.ifCond .ne 13, 3) := by decide +kernel
theorem dX2_wants_29 : decode cX2_wants 29 = .ok (.new 32, 3) := by decide +kernel
theorem dX2_wants_32 : decode cX2_wants 32 = .ok (.dup, 1) := by decide +kernel
theorem dX2_wants_33 : decode cX2_wants 33 = .ok (.ldc 196, 2) := by decide +kernel
theorem dX2_wants_35 : decode cX2_wants 35 = .ok (.invokespecial 36, 3) := by decide +kernel
theorem dX2_wants_38 : decode cX2_wants 38 = .ok (.athrow, 1) := by decide +kernel
theorem dX2_wants_39 : decode cX2_wants 39 = .ok (.aload_n 0, 1) := by decide +kernel
theorem dX2_wants_40 : decode cX2_wants 40 = .ok (.iload_n 1, 1) := by decide +kernel
theorem dX2_wants_41 : decode cX2_wants 41 = .ok (.bipush 9, 2) := by decide +kernel
theorem dX2_wants_43 : decode cX2_wants 43 = .ok (.iload_n 2, 1) := by decide +kernel
theorem dX2_wants_44 : decode cX2_wants 44 = .ok (.invokevirtual 205, 3) := by decide +kernel
theorem dX2_wants_47 : decode cX2_wants 47 = .ok (.istore_n 3, 1) := by decide +kernel
theorem dX2_wants_48 : decode cX2_wants 48 = .ok (.iconst 0, 1) := by decide +kernel
theorem dX2_wants_49 : decode cX2_wants 49 = .ok (.istore 4, 2) := by decide +kernel
theorem dX2_wants_51 : decode cX2_wants 51 = .ok (.iload 4, 2) := by decide +kernel
theorem dX2_wants_53 : decode cX2_wants 53 = .ok (.bipush 9, 2) := by decide +kernel
theorem dX2_wants_55 : decode cX2_wants 55 = .ok (.if_icmp .ge 24, 3) := by decide +kernel
theorem dX2_wants_58 : decode cX2_wants 58 = .ok (.aload_n 0, 1) := by decide +kernel
theorem dX2_wants_59 : decode cX2_wants 59 = .ok (.iload_n 1, 1) := by decide +kernel
theorem dX2_wants_60 : decode cX2_wants 60 = .ok (.iload 4, 2) := by decide +kernel
theorem dX2_wants_62 : decode cX2_wants 62 = .ok (.iload_n 2, 1) := by decide +kernel
theorem dX2_wants_63 : decode cX2_wants 63 = .ok (.invokevirtual 205, 3) := by decide +kernel
theorem dX2_wants_66 : decode cX2_wants 66 = .ok (.iload_n 3, 1) := by decide +kernel
theorem dX2_wants_67 : decode cX2_wants 67 = .ok (.if_icmp .gt 6, 3) := by decide +kernel
theorem dX2_wants_70 : decode cX2_wants 70 = .ok (.iload 4, 2) := by decide +kernel
theorem dX2_wants_72 : decode cX2_wants 72 = .ok (.ireturn, 1) := by decide +kernel
theorem dX2_wants_73 : decode cX2_wants 73 = .ok (.iinc 4 1, 3) := by decide +kernel
theorem dX2_wants_76 : decode cX2_wants 76 = .ok (.goto (-25), 3) := by decide +kernel
theorem dX2_wants_79 : decode cX2_wants 79 = .ok (.bipush 9, 2) := by decide +kernel
theorem dX2_wants_81 : decode cX2_wants 81 = .ok (.ireturn, 1) := by decide +kernel
theorem dX2_mean_0 : decode cX2_mean 0 = .ok (.aload_n 0, 1) := by decide +kernel
theorem dX2_mean_1 : decode cX2_mean 1 = .ok (.getfield 21, 3) := by decide +kernel
theorem dX2_mean_4 : decode cX2_mean 4 = .ok (.getfield 152, 3) := by decide +kernel
theorem dX2_mean_7 : decode cX2_mean 7 = .ok (.aload_n 0, 1) := by decide +kernel
theorem dX2_mean_8 : decode cX2_mean 8 = .ok (.getfield 21, 3) := by decide +kernel
theorem dX2_mean_11 : decode cX2_mean 11 = .ok (.getfield 173, 3) := by decide +kernel
theorem dX2_mean_14 : decode cX2_mean 14 = .ok (.iadd, 1) := by decide +kernel
theorem dX2_mean_15 : decode cX2_mean 15 = .ok (.istore_n 1, 1) := by decide +kernel
theorem dX2_mean_16 : decode cX2_mean 16 = .ok (.iload_n 1, 1) := by decide +kernel
theorem dX2_mean_17 : decode cX2_mean 17 = .ok (.ifCond .ne 5, 3) := by decide +kernel
theorem dX2_mean_20 : decode cX2_mean 20 = .ok (.dconst 0, 1) := by decide +kernel
theorem dX2_mean_21 : decode cX2_mean 21 = .ok (.dreturn, 1) := by decide +kernel
theorem dX2_mean_22 : decode cX2_mean 22 = .ok (.aload_n 0, 1) := by decide +kernel
theorem dX2_mean_23 : decode cX2_mean 23 = .ok (.getfield 21, 3) := by decide +kernel
theorem dX2_mean_26 : decode cX2_mean 26 = .ok (.getfield 170, 3) := by decide +kernel
theorem dX2_mean_29 : decode cX2_mean 29 = .ok (.i2d, 1) := by decide +kernel
theorem dX2_mean_30 : decode cX2_mean 30 = .ok (.iload_n 1, 1) := by decide +kernel
theorem dX2_mean_31 : decode cX2_mean 31 = .ok (.i2d, 1) := by decide +kernel
theorem dX2_mean_32 : decode cX2_mean 32 = .ok (.ddiv, 1) := by decide +kernel
theorem dX2_mean_33 : decode cX2_mean 33 = .ok (.dreturn, 1) := by decide +kernel
set_option maxRecDepth 20000 in
theorem ggX2_digest_X2_count : GoodIn wsX2_digest wsX2_count := goodIn_ca (goodIn_r _ [8, 9, 10, 3, 2, 11, 12, 7, 13, 14, 15, 16, 17, 18, 19, 20, 21, 22, 23, 24, 25, 26, 27, 28, 29, 30, 31, 32, 33, 34, 35, 36, 37, 38, 39, 40, 41, 42, 43, 44, 45, 46, 47, 48, 49, 50, 51, 52, 53, 54, 55, 56, 57, 83, 84, 85, 91, 92, 93, 94, 95, 96, 97, 98, 99, 100, 101, 102, 103, 104, 105, 86, 87, 88, 89, 90] (by decide +kernel) (by decide +kernel)) (goodIn_sub (fun _ h => List.mem_cons_of_mem _ (List.mem_append_right _ h)) (by decide +kernel))
set_option maxRecDepth 20000 in
theorem gX2_digest_X2_count : GoodIn wsX2_digest (wsV RX2 210 RX2 yX2_count wsX2_count) := goodIn_app (goodIn_of _ (by decide +kernel)) ggX2_digest_X2_count
set_option maxRecDepth 20000 in
theorem ggX2_digest_X2_digested : GoodIn wsX2_digest wsX2_digested := goodIn_r _ [60, 61] (by decide +kernel) (by decide +kernel)
set_option maxRecDepth 20000 in
theorem gX2_digest_X2_digested : GoodIn wsX2_digest (va_wsS RX2 213 yX2_digested wsX2_digested) := goodIn_app (goodIn_of _ (by decide +kernel)) ggX2_digest_X2_digested
set_option maxRecDepth 20000 in
theorem ggX2_digest_X2_glass : GoodIn wsX2_digest wsX2_glass := goodIn_ca (goodIn_r _ [65, 9, 10, 3, 37, 15, 38, 39, 18, 11, 12, 7, 13, 41, 42, 43, 44, 45, 46, 47, 48, 49, 36, 50, 51, 52, 53, 54, 55, 28, 29, 30, 31, 32, 33, 34, 35, 40, 56, 57, 83, 84, 85, 91, 92, 93, 94, 95, 96, 97, 98, 99, 100, 101, 102, 103, 104, 105] (by decide +kernel) (by decide +kernel)) (goodIn_sub (fun _ h => List.mem_cons_of_mem _ (List.mem_append_right _ h)) (by decide +kernel))
set_option maxRecDepth 20000 in
theorem gX2_digest_X2_glass : GoodIn wsX2_digest (wsV RX2 217 RX2 yX2_glass wsX2_glass) := goodIn_app (goodIn_of _ (by decide +kernel)) ggX2_digest_X2_glass
set_option maxRecDepth 20000 in
theorem ggX2_digest_X2_row : GoodIn wsX2_digest wsX2_row := goodIn_ca (goodIn_r _ [69, 9, 10, 3, 11, 12, 7, 13, 70, 15, 71, 72, 18, 73, 83, 84, 85, 91, 92, 93, 94, 95, 96, 97, 98, 99, 100, 101, 102, 103, 104, 105] (by decide +kernel) (by decide +kernel)) (goodIn_sub (fun _ h => List.mem_cons_of_mem _ (List.mem_append_right _ h)) (by decide +kernel))
set_option maxRecDepth 20000 in
theorem gX2_digest_X2_row : GoodIn wsX2_digest (wsV RX2 220 RX2 yX2_row wsX2_row) := goodIn_app (goodIn_of _ (by decide +kernel)) ggX2_digest_X2_row
set_option maxRecDepth 20000 in
theorem ggX2_digest_X2_written : GoodIn wsX2_digest wsX2_written := goodIn_ca (goodIn_r _ [77, 9, 10, 2, 78, 79, 80, 81, 82, 11, 12, 7, 13, 83, 84, 85, 86, 87, 88, 89, 90] (by decide +kernel) (by decide +kernel)) (goodIn_sub (fun _ h => List.mem_cons_of_mem _ (List.mem_append_right _ h)) (by decide +kernel))
set_option maxRecDepth 20000 in
theorem gX2_digest_X2_written : GoodIn wsX2_digest (wsV RX2 223 RX2 yX2_written wsX2_written) := goodIn_app (goodIn_of _ (by decide +kernel)) ggX2_digest_X2_written
theorem dX2_digest_0 : decode cX2_digest 0 = .ok (.ldc2_w 208, 3) := by decide +kernel
theorem dX2_digest_3 : decode cX2_digest 3 = .ok (.lstore_n 1, 1) := by decide +kernel
theorem dX2_digest_4 : decode cX2_digest 4 = .ok (.iconst 0, 1) := by decide +kernel
theorem dX2_digest_5 : decode cX2_digest 5 = .ok (.istore_n 3, 1) := by decide +kernel
theorem dX2_digest_6 : decode cX2_digest 6 = .ok (.iload_n 3, 1) := by decide +kernel
theorem dX2_digest_7 : decode cX2_digest 7 = .ok (.bipush 9, 2) := by decide +kernel
theorem dX2_digest_9 : decode cX2_digest 9 = .ok (.if_icmp .ge 19, 3) := by decide +kernel
theorem dX2_digest_12 : decode cX2_digest 12 = .ok (.lload_n 1, 1) := by decide +kernel
theorem dX2_digest_13 : decode cX2_digest 13 = .ok (.aload_n 0, 1) := by decide +kernel
theorem dX2_digest_14 : decode cX2_digest 14 = .ok (.iload_n 3, 1) := by decide +kernel
theorem dX2_digest_15 : decode cX2_digest 15 = .ok (.invokevirtual 210, 3) := by decide +kernel
theorem dX2_digest_18 : decode cX2_digest 18 = .ok (.invokestatic 213, 3) := by decide +kernel
theorem dX2_digest_21 : decode cX2_digest 21 = .ok (.lstore_n 1, 1) := by decide +kernel
theorem dX2_digest_22 : decode cX2_digest 22 = .ok (.iinc 3 1, 3) := by decide +kernel
theorem dX2_digest_25 : decode cX2_digest 25 = .ok (.goto (-19), 3) := by decide +kernel
theorem dX2_digest_28 : decode cX2_digest 28 = .ok (.lload_n 1, 1) := by decide +kernel
theorem dX2_digest_29 : decode cX2_digest 29 = .ok (.aload_n 0, 1) := by decide +kernel
theorem dX2_digest_30 : decode cX2_digest 30 = .ok (.getfield 10, 3) := by decide +kernel
theorem dX2_digest_33 : decode cX2_digest 33 = .ok (.getfield 114, 3) := by decide +kernel
theorem dX2_digest_36 : decode cX2_digest 36 = .ok (.invokestatic 213, 3) := by decide +kernel
theorem dX2_digest_39 : decode cX2_digest 39 = .ok (.lstore_n 1, 1) := by decide +kernel
theorem dX2_digest_40 : decode cX2_digest 40 = .ok (.iconst 0, 1) := by decide +kernel
theorem dX2_digest_41 : decode cX2_digest 41 = .ok (.istore_n 3, 1) := by decide +kernel
theorem dX2_digest_42 : decode cX2_digest 42 = .ok (.iload_n 3, 1) := by decide +kernel
theorem dX2_digest_43 : decode cX2_digest 43 = .ok (.aload_n 0, 1) := by decide +kernel
theorem dX2_digest_44 : decode cX2_digest 44 = .ok (.getfield 21, 3) := by decide +kernel
theorem dX2_digest_47 : decode cX2_digest 47 = .ok (.getfield 163, 3) := by decide +kernel
theorem dX2_digest_50 : decode cX2_digest 50 = .ok (.if_icmp .ge 37, 3) := by decide +kernel
theorem dX2_digest_53 : decode cX2_digest 53 = .ok (.iconst 0, 1) := by decide +kernel
theorem dX2_digest_54 : decode cX2_digest 54 = .ok (.istore 4, 2) := by decide +kernel
theorem dX2_digest_56 : decode cX2_digest 56 = .ok (.iload 4, 2) := by decide +kernel
theorem dX2_digest_58 : decode cX2_digest 58 = .ok (.bipush 8, 2) := by decide +kernel
theorem dX2_digest_60 : decode cX2_digest 60 = .ok (.if_icmp .ge 21, 3) := by decide +kernel
theorem dX2_digest_63 : decode cX2_digest 63 = .ok (.lload_n 1, 1) := by decide +kernel
theorem dX2_digest_64 : decode cX2_digest 64 = .ok (.aload_n 0, 1) := by decide +kernel
theorem dX2_digest_65 : decode cX2_digest 65 = .ok (.iload_n 3, 1) := by decide +kernel
theorem dX2_digest_66 : decode cX2_digest 66 = .ok (.iload 4, 2) := by decide +kernel
theorem dX2_digest_68 : decode cX2_digest 68 = .ok (.invokevirtual 217, 3) := by decide +kernel
theorem dX2_digest_71 : decode cX2_digest 71 = .ok (.invokestatic 213, 3) := by decide +kernel
theorem dX2_digest_74 : decode cX2_digest 74 = .ok (.lstore_n 1, 1) := by decide +kernel
theorem dX2_digest_75 : decode cX2_digest 75 = .ok (.iinc 4 1, 3) := by decide +kernel
theorem dX2_digest_78 : decode cX2_digest 78 = .ok (.goto (-22), 3) := by decide +kernel
theorem dX2_digest_81 : decode cX2_digest 81 = .ok (.iinc 3 1, 3) := by decide +kernel
theorem dX2_digest_84 : decode cX2_digest 84 = .ok (.goto (-42), 3) := by decide +kernel
theorem dX2_digest_87 : decode cX2_digest 87 = .ok (.iconst 0, 1) := by decide +kernel
theorem dX2_digest_88 : decode cX2_digest 88 = .ok (.istore_n 3, 1) := by decide +kernel
theorem dX2_digest_89 : decode cX2_digest 89 = .ok (.iload_n 3, 1) := by decide +kernel
theorem dX2_digest_90 : decode cX2_digest 90 = .ok (.iconst 4, 1) := by decide +kernel
theorem dX2_digest_91 : decode cX2_digest 91 = .ok (.if_icmp .ge 36, 3) := by decide +kernel
theorem dX2_digest_94 : decode cX2_digest 94 = .ok (.iconst 0, 1) := by decide +kernel
theorem dX2_digest_95 : decode cX2_digest 95 = .ok (.istore 4, 2) := by decide +kernel
theorem dX2_digest_97 : decode cX2_digest 97 = .ok (.iload 4, 2) := by decide +kernel
theorem dX2_digest_99 : decode cX2_digest 99 = .ok (.iconst 3, 1) := by decide +kernel
theorem dX2_digest_100 : decode cX2_digest 100 = .ok (.if_icmp .ge 21, 3) := by decide +kernel
theorem dX2_digest_103 : decode cX2_digest 103 = .ok (.lload_n 1, 1) := by decide +kernel
theorem dX2_digest_104 : decode cX2_digest 104 = .ok (.aload_n 0, 1) := by decide +kernel
theorem dX2_digest_105 : decode cX2_digest 105 = .ok (.iload_n 3, 1) := by decide +kernel
theorem dX2_digest_106 : decode cX2_digest 106 = .ok (.iload 4, 2) := by decide +kernel
theorem dX2_digest_108 : decode cX2_digest 108 = .ok (.invokevirtual 220, 3) := by decide +kernel
theorem dX2_digest_111 : decode cX2_digest 111 = .ok (.invokestatic 213, 3) := by decide +kernel
theorem dX2_digest_114 : decode cX2_digest 114 = .ok (.lstore_n 1, 1) := by decide +kernel
theorem dX2_digest_115 : decode cX2_digest 115 = .ok (.iinc 4 1, 3) := by decide +kernel
theorem dX2_digest_118 : decode cX2_digest 118 = .ok (.goto (-21), 3) := by decide +kernel
theorem dX2_digest_121 : decode cX2_digest 121 = .ok (.iinc 3 1, 3) := by decide +kernel
theorem dX2_digest_124 : decode cX2_digest 124 = .ok (.goto (-35), 3) := by decide +kernel
theorem dX2_digest_127 : decode cX2_digest 127 = .ok (.iconst 0, 1) := by decide +kernel
theorem dX2_digest_128 : decode cX2_digest 128 = .ok (.istore_n 3, 1) := by decide +kernel
theorem dX2_digest_129 : decode cX2_digest 129 = .ok (.iload_n 3, 1) := by decide +kernel
theorem dX2_digest_130 : decode cX2_digest 130 = .ok (.aload_n 0, 1) := by decide +kernel
theorem dX2_digest_131 : decode cX2_digest 131 = .ok (.getfield 10, 3) := by decide +kernel
theorem dX2_digest_134 : decode cX2_digest 134 = .ok (.getfield 127, 3) := by decide +kernel
theorem dX2_digest_137 : decode cX2_digest 137 = .ok (.if_icmp .ge 36, 3) := by decide +kernel
theorem dX2_digest_140 : decode cX2_digest 140 = .ok (.iconst 0, 1) := by decide +kernel
theorem dX2_digest_141 : decode cX2_digest 141 = .ok (.istore 4, 2) := by decide +kernel
theorem dX2_digest_143 : decode cX2_digest 143 = .ok (.iload 4, 2) := by decide +kernel
theorem dX2_digest_145 : decode cX2_digest 145 = .ok (.iconst 3, 1) := by decide +kernel
theorem dX2_digest_146 : decode cX2_digest 146 = .ok (.if_icmp .ge 21, 3) := by decide +kernel
theorem dX2_digest_149 : decode cX2_digest 149 = .ok (.lload_n 1, 1) := by decide +kernel
theorem dX2_digest_150 : decode cX2_digest 150 = .ok (.aload_n 0, 1) := by decide +kernel
theorem dX2_digest_151 : decode cX2_digest 151 = .ok (.iload_n 3, 1) := by decide +kernel
theorem dX2_digest_152 : decode cX2_digest 152 = .ok (.iload 4, 2) := by decide +kernel
theorem dX2_digest_154 : decode cX2_digest 154 = .ok (.invokevirtual 223, 3) := by decide +kernel
theorem dX2_digest_157 : decode cX2_digest 157 = .ok (.invokestatic 213, 3) := by decide +kernel
theorem dX2_digest_160 : decode cX2_digest 160 = .ok (.lstore_n 1, 1) := by decide +kernel
theorem dX2_digest_161 : decode cX2_digest 161 = .ok (.iinc 4 1, 3) := by decide +kernel
theorem dX2_digest_164 : decode cX2_digest 164 = .ok (.goto (-21), 3) := by decide +kernel
theorem dX2_digest_167 : decode cX2_digest 167 = .ok (.iinc 3 1, 3) := by decide +kernel
theorem dX2_digest_170 : decode cX2_digest 170 = .ok (.goto (-41), 3) := by decide +kernel
theorem dX2_digest_173 : decode cX2_digest 173 = .ok (.lload_n 1, 1) := by decide +kernel
theorem dX2_digest_174 : decode cX2_digest 174 = .ok (.lreturn, 1) := by decide +kernel
set_option maxRecDepth 20000 in
theorem ggX2_inTuneIfTuned_X0_takeOver : GoodIn wsX2_inTuneIfTuned wsX0_takeOver := goodIn_r _ [6, 7, 8, 9, 10, 11, 12, 13, 14, 15, 16, 17, 18, 19, 98, 99, 100, 101, 102, 103, 104, 105, 106, 107, 108, 109, 110, 111, 112] (by decide +kernel) (by decide +kernel)
set_option maxRecDepth 20000 in
theorem gX2_inTuneIfTuned_X0_takeOver_n192 : GoodIn wsX2_inTuneIfTuned (wsX0_takeOver) := ggX2_inTuneIfTuned_X0_takeOver
set_option maxRecDepth 20000 in
theorem ggX2_inTuneIfTuned_X0_tuneTo : GoodIn wsX2_inTuneIfTuned wsX0_tuneTo := goodIn_r _ [22, 10, 23, 24, 25, 4, 26, 11, 27, 28, 29, 30, 7, 31, 32, 33, 34, 9, 35, 36, 37, 38, 39, 40, 41, 42, 43, 44, 45, 46, 47, 98, 99, 100, 101, 102, 103, 104, 105, 106, 107, 108, 109, 110, 111, 112] (by decide +kernel) (by decide +kernel)
set_option maxRecDepth 20000 in
theorem gX2_inTuneIfTuned_X0_tuneTo_n226 : GoodIn wsX2_inTuneIfTuned (wsX0_tuneTo) := ggX2_inTuneIfTuned_X0_tuneTo
set_option maxRecDepth 20000 in
theorem ggX2_inTuneIfTuned_X0_letGoBy : GoodIn wsX2_inTuneIfTuned wsX0_letGoBy := goodIn_r _ [50, 16, 51, 52, 53, 4, 54, 14, 15, 55, 56, 57, 58, 59, 60, 61, 62, 7, 63, 64, 19, 65, 66, 67, 68, 69, 70, 71, 72, 73, 11, 8, 74, 75, 76, 77, 45, 46, 47, 78, 79, 80, 81, 9, 10, 82, 83, 84, 27, 28, 29, 30, 35, 36, 37, 38, 39, 40, 85, 86, 87, 88, 89, 90, 17, 18, 13, 12, 91, 92, 93, 94, 98, 99, 100, 101, 102, 103, 104, 105, 106, 107, 108, 109, 110, 111, 112, 113, 114, 115, 116, 117] (by decide +kernel) (by decide +kernel)
set_option maxRecDepth 20000 in
theorem gX2_inTuneIfTuned_X0_letGoBy_n155 : GoodIn wsX2_inTuneIfTuned (wsX0_letGoBy) := ggX2_inTuneIfTuned_X0_letGoBy
theorem dX2_inTuneIfTuned_0 : decode cX2_inTuneIfTuned 0 = .ok (.aload_n 0, 1) := by decide +kernel
theorem dX2_inTuneIfTuned_1 : decode cX2_inTuneIfTuned 1 = .ok (.getfield 25, 3) := by decide +kernel
theorem dX2_inTuneIfTuned_4 : decode cX2_inTuneIfTuned 4 = .ok (.aload_n 0, 1) := by decide +kernel
theorem dX2_inTuneIfTuned_5 : decode cX2_inTuneIfTuned 5 = .ok (.getfield 21, 3) := by decide +kernel
theorem dX2_inTuneIfTuned_8 : decode cX2_inTuneIfTuned 8 = .ok (.invokevirtual 192, 3) := by decide +kernel
theorem dX2_inTuneIfTuned_11 : decode cX2_inTuneIfTuned 11 = .ok (.aload_n 0, 1) := by decide +kernel
theorem dX2_inTuneIfTuned_12 : decode cX2_inTuneIfTuned 12 = .ok (.getfield 25, 3) := by decide +kernel
theorem dX2_inTuneIfTuned_15 : decode cX2_inTuneIfTuned 15 = .ok (.iload_n 1, 1) := by decide +kernel
theorem dX2_inTuneIfTuned_16 : decode cX2_inTuneIfTuned 16 = .ok (.iload_n 2, 1) := by decide +kernel
theorem dX2_inTuneIfTuned_17 : decode cX2_inTuneIfTuned 17 = .ok (.invokevirtual 226, 3) := by decide +kernel
theorem dX2_inTuneIfTuned_20 : decode cX2_inTuneIfTuned 20 = .ok (.aload_n 0, 1) := by decide +kernel
theorem dX2_inTuneIfTuned_21 : decode cX2_inTuneIfTuned 21 = .ok (.getfield 25, 3) := by decide +kernel
theorem dX2_inTuneIfTuned_24 : decode cX2_inTuneIfTuned 24 = .ok (.iload_n 3, 1) := by decide +kernel
theorem dX2_inTuneIfTuned_25 : decode cX2_inTuneIfTuned 25 = .ok (.invokevirtual 155, 3) := by decide +kernel
theorem dX2_inTuneIfTuned_28 : decode cX2_inTuneIfTuned 28 = .ok (.aload_n 0, 1) := by decide +kernel
theorem dX2_inTuneIfTuned_29 : decode cX2_inTuneIfTuned 29 = .ok (.getfield 25, 3) := by decide +kernel
theorem dX2_inTuneIfTuned_32 : decode cX2_inTuneIfTuned 32 = .ok (.getfield 170, 3) := by decide +kernel
theorem dX2_inTuneIfTuned_35 : decode cX2_inTuneIfTuned 35 = .ok (.ireturn, 1) := by decide +kernel
set_option maxRecDepth 20000 in
theorem ggX2_missedIfPumped_X0_takeOver : GoodIn wsX2_missedIfPumped wsX0_takeOver := goodIn_r _ [6, 7, 8, 9, 10, 11, 12, 13, 14, 15, 16, 17, 18, 19, 86, 87, 88, 89, 90, 91, 92, 93, 94, 95, 96, 97, 98, 99, 100] (by decide +kernel) (by decide +kernel)
set_option maxRecDepth 20000 in
theorem gX2_missedIfPumped_X0_takeOver_n192 : GoodIn wsX2_missedIfPumped (wsX0_takeOver) := ggX2_missedIfPumped_X0_takeOver
set_option maxRecDepth 20000 in
theorem ggX2_missedIfPumped_X0_setPump : GoodIn wsX2_missedIfPumped wsX0_setPump := goodIn_r _ [22, 15, 23, 24, 25, 86, 87, 88, 89, 90, 91, 92, 93, 94, 95, 96, 97, 98, 99, 100] (by decide +kernel) (by decide +kernel)
set_option maxRecDepth 20000 in
theorem gX2_missedIfPumped_X0_setPump_n230 : GoodIn wsX2_missedIfPumped (wsX0_setPump) := ggX2_missedIfPumped_X0_setPump
set_option maxRecDepth 20000 in
theorem ggX2_missedIfPumped_X0_letGoBy : GoodIn wsX2_missedIfPumped wsX0_letGoBy := goodIn_r _ [28, 16, 29, 30, 31, 4, 32, 14, 15, 33, 34, 35, 36, 37, 38, 39, 40, 7, 41, 42, 19, 43, 44, 45, 46, 47, 48, 49, 50, 51, 11, 8, 52, 53, 54, 55, 23, 24, 25, 56, 57, 58, 59, 9, 10, 60, 61, 62, 63, 64, 65, 66, 67, 68, 69, 70, 71, 72, 73, 74, 75, 76, 77, 78, 17, 18, 13, 12, 79, 80, 81, 82, 86, 87, 88, 89, 90, 91, 92, 93, 94, 95, 96, 97, 98, 99, 100, 101, 102, 103, 104, 105] (by decide +kernel) (by decide +kernel)
set_option maxRecDepth 20000 in
theorem gX2_missedIfPumped_X0_letGoBy_n155 : GoodIn wsX2_missedIfPumped (wsX0_letGoBy) := ggX2_missedIfPumped_X0_letGoBy
theorem dX2_missedIfPumped_0 : decode cX2_missedIfPumped 0 = .ok (.aload_n 0, 1) := by decide +kernel
theorem dX2_missedIfPumped_1 : decode cX2_missedIfPumped 1 = .ok (.getfield 25, 3) := by decide +kernel
theorem dX2_missedIfPumped_4 : decode cX2_missedIfPumped 4 = .ok (.aload_n 0, 1) := by decide +kernel
theorem dX2_missedIfPumped_5 : decode cX2_missedIfPumped 5 = .ok (.getfield 21, 3) := by decide +kernel
theorem dX2_missedIfPumped_8 : decode cX2_missedIfPumped 8 = .ok (.invokevirtual 192, 3) := by decide +kernel
theorem dX2_missedIfPumped_11 : decode cX2_missedIfPumped 11 = .ok (.aload_n 0, 1) := by decide +kernel
theorem dX2_missedIfPumped_12 : decode cX2_missedIfPumped 12 = .ok (.getfield 25, 3) := by decide +kernel
theorem dX2_missedIfPumped_15 : decode cX2_missedIfPumped 15 = .ok (.iload_n 1, 1) := by decide +kernel
theorem dX2_missedIfPumped_16 : decode cX2_missedIfPumped 16 = .ok (.iload_n 2, 1) := by decide +kernel
theorem dX2_missedIfPumped_17 : decode cX2_missedIfPumped 17 = .ok (.invokevirtual 230, 3) := by decide +kernel
theorem dX2_missedIfPumped_20 : decode cX2_missedIfPumped 20 = .ok (.aload_n 0, 1) := by decide +kernel
theorem dX2_missedIfPumped_21 : decode cX2_missedIfPumped 21 = .ok (.getfield 25, 3) := by decide +kernel
theorem dX2_missedIfPumped_24 : decode cX2_missedIfPumped 24 = .ok (.iload_n 3, 1) := by decide +kernel
theorem dX2_missedIfPumped_25 : decode cX2_missedIfPumped 25 = .ok (.invokevirtual 155, 3) := by decide +kernel
theorem dX2_missedIfPumped_28 : decode cX2_missedIfPumped 28 = .ok (.aload_n 0, 1) := by decide +kernel
theorem dX2_missedIfPumped_29 : decode cX2_missedIfPumped 29 = .ok (.getfield 25, 3) := by decide +kernel
theorem dX2_missedIfPumped_32 : decode cX2_missedIfPumped 32 = .ok (.getfield 173, 3) := by decide +kernel
theorem dX2_missedIfPumped_35 : decode cX2_missedIfPumped 35 = .ok (.ireturn, 1) := by decide +kernel
theorem dX2_digested_0 : decode cX2_digested 0 = .ok (.lload_n 0, 1) := by decide +kernel
theorem dX2_digested_1 : decode cX2_digested 1 = .ok (.ldc2_w 233, 3) := by decide +kernel
theorem dX2_digested_4 : decode cX2_digested 4 = .ok (.lmul, 1) := by decide +kernel
theorem dX2_digested_5 : decode cX2_digested 5 = .ok (.iload_n 2, 1) := by decide +kernel
theorem dX2_digested_6 : decode cX2_digested 6 = .ok (.i2l, 1) := by decide +kernel
theorem dX2_digested_7 : decode cX2_digested 7 = .ok (.ladd, 1) := by decide +kernel
theorem dX2_digested_8 : decode cX2_digested 8 = .ok (.lreturn, 1) := by decide +kernel
theorem dX2_isWithin_0 : decode cX2_isWithin 0 = .ok (.iload_n 0, 1) := by decide +kernel
theorem dX2_isWithin_1 : decode cX2_isWithin 1 = .ok (.iload_n 1, 1) := by decide +kernel
theorem dX2_isWithin_2 : decode cX2_isWithin 2 = .ok (.if_icmp .lt 12, 3) := by decide +kernel
theorem dX2_isWithin_5 : decode cX2_isWithin 5 = .ok (.iload_n 0, 1) := by decide +kernel
theorem dX2_isWithin_6 : decode cX2_isWithin 6 = .ok (.iload_n 2, 1) := by decide +kernel
theorem dX2_isWithin_7 : decode cX2_isWithin 7 = .ok (.if_icmp .gt 7, 3) := by decide +kernel
theorem dX2_isWithin_10 : decode cX2_isWithin 10 = .ok (.iconst 1, 1) := by decide +kernel
theorem dX2_isWithin_11 : decode cX2_isWithin 11 = .ok (.goto 4, 3) := by decide +kernel
theorem dX2_isWithin_14 : decode cX2_isWithin 14 = .ok (.iconst 0, 1) := by decide +kernel
theorem dX2_isWithin_15 : decode cX2_isWithin 15 = .ok (.ireturn, 1) := by decide +kernel
theorem dX2_distance_0 : decode cX2_distance 0 = .ok (.iload_n 0, 1) := by decide +kernel
theorem dX2_distance_1 : decode cX2_distance 1 = .ok (.iload_n 1, 1) := by decide +kernel
theorem dX2_distance_2 : decode cX2_distance 2 = .ok (.if_icmp .ge 9, 3) := by decide +kernel
theorem dX2_distance_5 : decode cX2_distance 5 = .ok (.iload_n 1, 1) := by decide +kernel
theorem dX2_distance_6 : decode cX2_distance 6 = .ok (.iload_n 0, 1) := by decide +kernel
theorem dX2_distance_7 : decode cX2_distance 7 = .ok (.isub, 1) := by decide +kernel
theorem dX2_distance_8 : decode cX2_distance 8 = .ok (.goto 6, 3) := by decide +kernel
theorem dX2_distance_11 : decode cX2_distance 11 = .ok (.iload_n 0, 1) := by decide +kernel
theorem dX2_distance_12 : decode cX2_distance 12 = .ok (.iload_n 1, 1) := by decide +kernel
theorem dX2_distance_13 : decode cX2_distance 13 = .ok (.isub, 1) := by decide +kernel
theorem dX2_distance_14 : decode cX2_distance 14 = .ok (.ireturn, 1) := by decide +kernel
end
section
theorem dX3_init_0 : decode cX3_init 0 = .ok (.aload_n 0, 1) := by decide +kernel
theorem dX3_init_1 : decode cX3_init 1 = .ok (.aload_n 1, 1) := by decide +kernel
theorem dX3_init_2 : decode cX3_init 2 = .ok (.putfield 3, 3) := by decide +kernel
theorem dX3_init_5 : decode cX3_init 5 = .ok (.aload_n 0, 1) := by decide +kernel
theorem dX3_init_6 : decode cX3_init 6 = .ok (.invokespecial 9, 3) := by decide +kernel
theorem dX3_init_9 : decode cX3_init 9 = .ok (.aload_n 0, 1) := by decide +kernel
theorem dX3_init_10 : decode cX3_init 10 = .ok (.iconst 4, 1) := by decide +kernel
theorem dX3_init_11 : decode cX3_init 11 = .ok (.newarray .int, 2) := by decide +kernel
theorem dX3_init_13 : decode cX3_init 13 = .ok (.dup, 1) := by decide +kernel
theorem dX3_init_14 : decode cX3_init 14 = .ok (.iconst 0, 1) := by decide +kernel
theorem dX3_init_15 : decode cX3_init 15 = .ok (.bipush 30, 2) := by decide +kernel
theorem dX3_init_17 : decode cX3_init 17 = .ok (.iastore, 1) := by decide +kernel
theorem dX3_init_18 : decode cX3_init 18 = .ok (.dup, 1) := by decide +kernel
theorem dX3_init_19 : decode cX3_init 19 = .ok (.iconst 1, 1) := by decide +kernel
theorem dX3_init_20 : decode cX3_init 20 = .ok (.bipush 30, 2) := by decide +kernel
theorem dX3_init_22 : decode cX3_init 22 = .ok (.iastore, 1) := by decide +kernel
theorem dX3_init_23 : decode cX3_init 23 = .ok (.dup, 1) := by decide +kernel
theorem dX3_init_24 : decode cX3_init 24 = .ok (.iconst 2, 1) := by decide +kernel
theorem dX3_init_25 : decode cX3_init 25 = .ok (.bipush 30, 2) := by decide +kernel
theorem dX3_init_27 : decode cX3_init 27 = .ok (.iastore, 1) := by decide +kernel
theorem dX3_init_28 : decode cX3_init 28 = .ok (.dup, 1) := by decide +kernel
theorem dX3_init_29 : decode cX3_init 29 = .ok (.iconst 3, 1) := by decide +kernel
theorem dX3_init_30 : decode cX3_init 30 = .ok (.bipush 30, 2) := by decide +kernel
theorem dX3_init_32 : decode cX3_init 32 = .ok (.iastore, 1) := by decide +kernel
theorem dX3_init_33 : decode cX3_init 33 = .ok (.putfield 15, 3) := by decide +kernel
theorem dX3_init_36 : decode cX3_init 36 = .ok (.aload_n 0, 1) := by decide +kernel
theorem dX3_init_37 : decode cX3_init 37 = .ok (.iconst 4, 1) := by decide +kernel
theorem dX3_init_38 : decode cX3_init 38 = .ok (.newarray .int, 2) := by decide +kernel
theorem dX3_init_40 : decode cX3_init 40 = .ok (.dup, 1) := by decide +kernel
theorem dX3_init_41 : decode cX3_init 41 = .ok (.iconst 0, 1) := by decide +kernel
theorem dX3_init_42 : decode cX3_init 42 = .ok (.iconst 3, 1) := by decide +kernel
theorem dX3_init_43 : decode cX3_init 43 = .ok (.iastore, 1) := by decide +kernel
theorem dX3_init_44 : decode cX3_init 44 = .ok (.dup, 1) := by decide +kernel
theorem dX3_init_45 : decode cX3_init 45 = .ok (.iconst 1, 1) := by decide +kernel
theorem dX3_init_46 : decode cX3_init 46 = .ok (.iconst 3, 1) := by decide +kernel
theorem dX3_init_47 : decode cX3_init 47 = .ok (.iastore, 1) := by decide +kernel
theorem dX3_init_48 : decode cX3_init 48 = .ok (.dup, 1) := by decide +kernel
theorem dX3_init_49 : decode cX3_init 49 = .ok (.iconst 2, 1) := by decide +kernel
theorem dX3_init_50 : decode cX3_init 50 = .ok (.iconst 3, 1) := by decide +kernel
theorem dX3_init_51 : decode cX3_init 51 = .ok (.iastore, 1) := by decide +kernel
theorem dX3_init_52 : decode cX3_init 52 = .ok (.dup, 1) := by decide +kernel
theorem dX3_init_53 : decode cX3_init 53 = .ok (.iconst 3, 1) := by decide +kernel
theorem dX3_init_54 : decode cX3_init 54 = .ok (.iconst 3, 1) := by decide +kernel
theorem dX3_init_55 : decode cX3_init 55 = .ok (.iastore, 1) := by decide +kernel
theorem dX3_init_56 : decode cX3_init 56 = .ok (.putfield 19, 3) := by decide +kernel
theorem dX3_init_59 : decode cX3_init 59 = .ok (.aload_n 0, 1) := by decide +kernel
theorem dX3_init_60 : decode cX3_init 60 = .ok (.bipush 16, 2) := by decide +kernel
theorem dX3_init_62 : decode cX3_init 62 = .ok (.newarray .int, 2) := by decide +kernel
theorem dX3_init_64 : decode cX3_init 64 = .ok (.putfield 22, 3) := by decide +kernel
theorem dX3_init_67 : decode cX3_init 67 = .ok (.aload_n 0, 1) := by decide +kernel
theorem dX3_init_68 : decode cX3_init 68 = .ok (.bipush 16, 2) := by decide +kernel
theorem dX3_init_70 : decode cX3_init 70 = .ok (.newarray .int, 2) := by decide +kernel
theorem dX3_init_72 : decode cX3_init 72 = .ok (.putfield 25, 3) := by decide +kernel
theorem dX3_init_75 : decode cX3_init 75 = .ok (.aload_n 0, 1) := by decide +kernel
theorem dX3_init_76 : decode cX3_init 76 = .ok (.bipush 16, 2) := by decide +kernel
theorem dX3_init_78 : decode cX3_init 78 = .ok (.newarray .int, 2) := by decide +kernel
theorem dX3_init_80 : decode cX3_init 80 = .ok (.putfield 28, 3) := by decide +kernel
theorem dX3_init_83 : decode cX3_init 83 = .ok (.aload_n 0, 1) := by decide +kernel
theorem dX3_init_84 : decode cX3_init 84 = .ok (.bipush 16, 2) := by decide +kernel
theorem dX3_init_86 : decode cX3_init 86 = .ok (.newarray .int, 2) := by decide +kernel
theorem dX3_init_88 : decode cX3_init 88 = .ok (.putfield 31, 3) := by decide +kernel
theorem dX3_init_91 : decode cX3_init 91 = .ok (.return_, 1) := by decide +kernel
theorem dX3_copy_0 : decode cX3_copy 0 = .ok (.aload_n 1, 1) := by decide +kernel
theorem dX3_copy_1 : decode cX3_copy 1 = .ok (.iconst 0, 1) := by decide +kernel
theorem dX3_copy_2 : decode cX3_copy 2 = .ok (.aload_n 2, 1) := by decide +kernel
theorem dX3_copy_3 : decode cX3_copy 3 = .ok (.iconst 0, 1) := by decide +kernel
theorem dX3_copy_4 : decode cX3_copy 4 = .ok (.aload_n 1, 1) := by decide +kernel
theorem dX3_copy_5 : decode cX3_copy 5 = .ok (.arraylength, 1) := by decide +kernel
theorem dX3_copy_6 : decode cX3_copy 6 = .ok (.invokestatic 34, 3) := by decide +kernel
theorem dX3_copy_9 : decode cX3_copy 9 = .ok (.return_, 1) := by decide +kernel
set_option maxRecDepth 20000 in
theorem ggX3_become_X3_copy : GoodIn wsX3_become wsX3_copy := goodIn_r _ [15, 16, 17, 18, 19] (by decide +kernel) (by decide +kernel)
set_option maxRecDepth 20000 in
theorem gX3_become_X3_copy : GoodIn wsX3_become (wsV RX3 53 RX3 yX3_copy wsX3_copy) := goodIn_app (goodIn_of _ (by decide +kernel)) ggX3_become_X3_copy
theorem dX3_become_0 : decode cX3_become 0 = .ok (.aload_n 0, 1) := by decide +kernel
theorem dX3_become_1 : decode cX3_become 1 = .ok (.aload_n 1, 1) := by decide +kernel
theorem dX3_become_2 : decode cX3_become 2 = .ok (.getfield 40, 3) := by decide +kernel
theorem dX3_become_5 : decode cX3_become 5 = .ok (.putfield 40, 3) := by decide +kernel
theorem dX3_become_8 : decode cX3_become 8 = .ok (.aload_n 0, 1) := by decide +kernel
theorem dX3_become_9 : decode cX3_become 9 = .ok (.aload_n 1, 1) := by decide +kernel
theorem dX3_become_10 : decode cX3_become 10 = .ok (.getfield 44, 3) := by decide +kernel
theorem dX3_become_13 : decode cX3_become 13 = .ok (.putfield 44, 3) := by decide +kernel
theorem dX3_become_16 : decode cX3_become 16 = .ok (.aload_n 0, 1) := by decide +kernel
theorem dX3_become_17 : decode cX3_become 17 = .ok (.aload_n 1, 1) := by decide +kernel
theorem dX3_become_18 : decode cX3_become 18 = .ok (.getfield 47, 3) := by decide +kernel
theorem dX3_become_21 : decode cX3_become 21 = .ok (.putfield 47, 3) := by decide +kernel
theorem dX3_become_24 : decode cX3_become 24 = .ok (.aload_n 0, 1) := by decide +kernel
theorem dX3_become_25 : decode cX3_become 25 = .ok (.aload_n 1, 1) := by decide +kernel
theorem dX3_become_26 : decode cX3_become 26 = .ok (.getfield 50, 3) := by decide +kernel
theorem dX3_become_29 : decode cX3_become 29 = .ok (.putfield 50, 3) := by decide +kernel
theorem dX3_become_32 : decode cX3_become 32 = .ok (.aload_n 0, 1) := by decide +kernel
theorem dX3_become_33 : decode cX3_become 33 = .ok (.aload_n 1, 1) := by decide +kernel
theorem dX3_become_34 : decode cX3_become 34 = .ok (.getfield 15, 3) := by decide +kernel
theorem dX3_become_37 : decode cX3_become 37 = .ok (.aload_n 0, 1) := by decide +kernel
theorem dX3_become_38 : decode cX3_become 38 = .ok (.getfield 15, 3) := by decide +kernel
theorem dX3_become_41 : decode cX3_become 41 = .ok (.invokevirtual 53, 3) := by decide +kernel
theorem dX3_become_44 : decode cX3_become 44 = .ok (.aload_n 0, 1) := by decide +kernel
theorem dX3_become_45 : decode cX3_become 45 = .ok (.aload_n 1, 1) := by decide +kernel
theorem dX3_become_46 : decode cX3_become 46 = .ok (.getfield 19, 3) := by decide +kernel
theorem dX3_become_49 : decode cX3_become 49 = .ok (.aload_n 0, 1) := by decide +kernel
theorem dX3_become_50 : decode cX3_become 50 = .ok (.getfield 19, 3) := by decide +kernel
theorem dX3_become_53 : decode cX3_become 53 = .ok (.invokevirtual 53, 3) := by decide +kernel
theorem dX3_become_56 : decode cX3_become 56 = .ok (.aload_n 0, 1) := by decide +kernel
theorem dX3_become_57 : decode cX3_become 57 = .ok (.aload_n 1, 1) := by decide +kernel
theorem dX3_become_58 : decode cX3_become 58 = .ok (.getfield 22, 3) := by decide +kernel
theorem dX3_become_61 : decode cX3_become 61 = .ok (.aload_n 0, 1) := by decide +kernel
theorem dX3_become_62 : decode cX3_become 62 = .ok (.getfield 22, 3) := by decide +kernel
theorem dX3_become_65 : decode cX3_become 65 = .ok (.invokevirtual 53, 3) := by decide +kernel
theorem dX3_become_68 : decode cX3_become 68 = .ok (.aload_n 0, 1) := by decide +kernel
theorem dX3_become_69 : decode cX3_become 69 = .ok (.aload_n 1, 1) := by decide +kernel
theorem dX3_become_70 : decode cX3_become 70 = .ok (.getfield 25, 3) := by decide +kernel
theorem dX3_become_73 : decode cX3_become 73 = .ok (.aload_n 0, 1) := by decide +kernel
theorem dX3_become_74 : decode cX3_become 74 = .ok (.getfield 25, 3) := by decide +kernel
theorem dX3_become_77 : decode cX3_become 77 = .ok (.invokevirtual 53, 3) := by decide +kernel
theorem dX3_become_80 : decode cX3_become 80 = .ok (.aload_n 0, 1) := by decide +kernel
theorem dX3_become_81 : decode cX3_become 81 = .ok (.aload_n 1, 1) := by decide +kernel
theorem dX3_become_82 : decode cX3_become 82 = .ok (.getfield 28, 3) := by decide +kernel
theorem dX3_become_85 : decode cX3_become 85 = .ok (.aload_n 0, 1) := by decide +kernel
theorem dX3_become_86 : decode cX3_become 86 = .ok (.getfield 28, 3) := by decide +kernel
theorem dX3_become_89 : decode cX3_become 89 = .ok (.invokevirtual 53, 3) := by decide +kernel
theorem dX3_become_92 : decode cX3_become 92 = .ok (.aload_n 0, 1) := by decide +kernel
theorem dX3_become_93 : decode cX3_become 93 = .ok (.aload_n 1, 1) := by decide +kernel
theorem dX3_become_94 : decode cX3_become 94 = .ok (.getfield 31, 3) := by decide +kernel
theorem dX3_become_97 : decode cX3_become 97 = .ok (.aload_n 0, 1) := by decide +kernel
theorem dX3_become_98 : decode cX3_become 98 = .ok (.getfield 31, 3) := by decide +kernel
theorem dX3_become_101 : decode cX3_become 101 = .ok (.invokevirtual 53, 3) := by decide +kernel
theorem dX3_become_104 : decode cX3_become 104 = .ok (.return_, 1) := by decide +kernel
theorem dX3_tone_0 : decode cX3_tone 0 = .ok (.iconst 0, 1) := by decide +kernel
theorem dX3_tone_1 : decode cX3_tone 1 = .ok (.bipush 120, 2) := by decide +kernel
theorem dX3_tone_3 : decode cX3_tone 3 = .ok (.bipush 8, 2) := by decide +kernel
theorem dX3_tone_5 : decode cX3_tone 5 = .ok (.aload_n 0, 1) := by decide +kernel
theorem dX3_tone_6 : decode cX3_tone 6 = .ok (.getfield 3, 3) := by decide +kernel
theorem dX3_tone_9 : decode cX3_tone 9 = .ok (.getfield 57, 3) := by decide +kernel
theorem dX3_tone_12 : decode cX3_tone 12 = .ok (.iload_n 1, 1) := by decide +kernel
theorem dX3_tone_13 : decode cX3_tone 13 = .ok (.iaload, 1) := by decide +kernel
theorem dX3_tone_14 : decode cX3_tone 14 = .ok (.imul, 1) := by decide +kernel
theorem dX3_tone_15 : decode cX3_tone 15 = .ok (.isub, 1) := by decide +kernel
theorem dX3_tone_16 : decode cX3_tone 16 = .ok (.aload_n 0, 1) := by decide +kernel
theorem dX3_tone_17 : decode cX3_tone 17 = .ok (.getfield 22, 3) := by decide +kernel
theorem dX3_tone_20 : decode cX3_tone 20 = .ok (.iload_n 1, 1) := by decide +kernel
theorem dX3_tone_21 : decode cX3_tone 21 = .ok (.iaload, 1) := by decide +kernel
theorem dX3_tone_22 : decode cX3_tone 22 = .ok (.iconst 4, 1) := by decide +kernel
theorem dX3_tone_23 : decode cX3_tone 23 = .ok (.aload_n 0, 1) := by decide +kernel
theorem dX3_tone_24 : decode cX3_tone 24 = .ok (.getfield 3, 3) := by decide +kernel
theorem dX3_tone_27 : decode cX3_tone 27 = .ok (.getfield 57, 3) := by decide +kernel
theorem dX3_tone_30 : decode cX3_tone 30 = .ok (.iload_n 1, 1) := by decide +kernel
theorem dX3_tone_31 : decode cX3_tone 31 = .ok (.iaload, 1) := by decide +kernel
theorem dX3_tone_32 : decode cX3_tone 32 = .ok (.imul, 1) := by decide +kernel
theorem dX3_tone_33 : decode cX3_tone 33 = .ok (.idiv, 1) := by decide +kernel
theorem dX3_tone_34 : decode cX3_tone 34 = .ok (.isub, 1) := by decide +kernel
theorem dX3_tone_35 : decode cX3_tone 35 = .ok (.invokestatic 60, 3) := by decide +kernel
theorem dX3_tone_38 : decode cX3_tone 38 = .ok (.ireturn, 1) := by decide +kernel
set_option maxRecDepth 20000 in
theorem ggX3_off_X3_tone : GoodIn wsX3_off wsX3_tone := goodIn_r _ [9, 10, 11, 12, 13, 3, 14, 15, 16, 17, 18, 19, 20, 21, 22, 23, 24, 25, 26, 27, 28, 29, 30, 31, 32, 33, 34, 35] (by decide +kernel) (by decide +kernel)
set_option maxRecDepth 20000 in
theorem gX3_off_X3_tone : GoodIn wsX3_off (wsV RX3 66 RX3 yX3_tone wsX3_tone) := goodIn_app (goodIn_of _ (by decide +kernel)) ggX3_off_X3_tone
theorem dX3_off_0 : decode cX3_off 0 = .ok (.aload_n 0, 1) := by decide +kernel
theorem dX3_off_1 : decode cX3_off 1 = .ok (.iload_n 1, 1) := by decide +kernel
theorem dX3_off_2 : decode cX3_off 2 = .ok (.invokevirtual 66, 3) := by decide +kernel
theorem dX3_off_5 : decode cX3_off 5 = .ok (.iload_n 2, 1) := by decide +kernel
theorem dX3_off_6 : decode cX3_off 6 = .ok (.isub, 1) := by decide +kernel
theorem dX3_off_7 : decode cX3_off 7 = .ok (.invokestatic 70, 3) := by decide +kernel
theorem dX3_off_10 : decode cX3_off 10 = .ok (.ireturn, 1) := by decide +kernel
set_option maxRecDepth 20000 in
theorem ggX3_come_X3_off : GoodIn wsX3_come wsX3_off := goodIn_r _ [19, 20, 21, 13, 22, 23, 24, 25, 18, 26, 1, 10, 11, 12, 14, 27, 28, 29, 30, 31, 32, 33, 34, 35, 36, 37, 38, 39, 40, 41, 42, 43, 44, 45, 46, 47] (by decide +kernel) (by decide +kernel)
set_option maxRecDepth 20000 in
theorem gX3_come_X3_off : GoodIn wsX3_come (wsV RX3 82 RX3 yX3_off wsX3_off) := goodIn_app (goodIn_of _ (by decide +kernel)) ggX3_come_X3_off
theorem dX3_come_0 : decode cX3_come 0 = .ok (.iconst (-1), 1) := by decide +kernel
theorem dX3_come_1 : decode cX3_come 1 = .ok (.istore_n 3, 1) := by decide +kernel
theorem dX3_come_2 : decode cX3_come 2 = .ok (.iconst 0, 1) := by decide +kernel
theorem dX3_come_3 : decode cX3_come 3 = .ok (.istore 4, 2) := by decide +kernel
theorem dX3_come_5 : decode cX3_come 5 = .ok (.iload 4, 2) := by decide +kernel
theorem dX3_come_7 : decode cX3_come 7 = .ok (.aload_n 0, 1) := by decide +kernel
theorem dX3_come_8 : decode cX3_come 8 = .ok (.getfield 3, 3) := by decide +kernel
theorem dX3_come_11 : decode cX3_come 11 = .ok (.getfield 73, 3) := by decide +kernel
theorem dX3_come_14 : decode cX3_come 14 = .ok (.if_icmp .ge 91, 3) := by decide +kernel
theorem dX3_come_17 : decode cX3_come 17 = .ok (.aload_n 0, 1) := by decide +kernel
theorem dX3_come_18 : decode cX3_come 18 = .ok (.getfield 25, 3) := by decide +kernel
theorem dX3_come_21 : decode cX3_come 21 = .ok (.iload 4, 2) := by decide +kernel
theorem dX3_come_23 : decode cX3_come 23 = .ok (.iaload, 1) := by decide +kernel
theorem dX3_come_24 : decode cX3_come 24 = .ok (.iconst 1, 1) := by decide +kernel
theorem dX3_come_25 : decode cX3_come 25 = .ok (.if_icmp .eq 74, 3) := by decide +kernel
theorem dX3_come_28 : decode cX3_come 28 = .ok (.aload_n 0, 1) := by decide +kernel
theorem dX3_come_29 : decode cX3_come 29 = .ok (.getfield 76, 3) := by decide +kernel
theorem dX3_come_32 : decode cX3_come 32 = .ok (.iload 4, 2) := by decide +kernel
theorem dX3_come_34 : decode cX3_come 34 = .ok (.ishr, 1) := by decide +kernel
theorem dX3_come_35 : decode cX3_come 35 = .ok (.iconst 1, 1) := by decide +kernel
theorem dX3_come_36 : decode cX3_come 36 = .ok (.iand, 1) := by decide +kernel
theorem dX3_come_37 : decode cX3_come 37 = .ok (.iconst 1, 1) := by decide +kernel
theorem dX3_come_38 : decode cX3_come 38 = .ok (.if_icmp .eq 61, 3) := by decide +kernel
theorem dX3_come_41 : decode cX3_come 41 = .ok (.aload_n 0, 1) := by decide +kernel
theorem dX3_come_42 : decode cX3_come 42 = .ok (.getfield 15, 3) := by decide +kernel
theorem dX3_come_45 : decode cX3_come 45 = .ok (.aload_n 0, 1) := by decide +kernel
theorem dX3_come_46 : decode cX3_come 46 = .ok (.getfield 3, 3) := by decide +kernel
theorem dX3_come_49 : decode cX3_come 49 = .ok (.getfield 79, 3) := by decide +kernel
theorem dX3_come_52 : decode cX3_come 52 = .ok (.iload 4, 2) := by decide +kernel
theorem dX3_come_54 : decode cX3_come 54 = .ok (.iaload, 1) := by decide +kernel
theorem dX3_come_55 : decode cX3_come 55 = .ok (.iaload, 1) := by decide +kernel
theorem dX3_come_56 : decode cX3_come 56 = .ok (.iload_n 2, 1) := by decide +kernel
theorem dX3_come_57 : decode cX3_come 57 = .ok (.if_icmp .lt 42, 3) := by decide +kernel
theorem dX3_come_60 : decode cX3_come 60 = .ok (.aload_n 0, 1) := by decide +kernel
theorem dX3_come_61 : decode cX3_come 61 = .ok (.iload 4, 2) := by decide +kernel
theorem dX3_come_63 : decode cX3_come 63 = .ok (.iload_n 1, 1) := by decide +kernel
theorem dX3_come_64 : decode cX3_come 64 = .ok (.invokevirtual 82, 3) := by decide +kernel
theorem dX3_come_67 : decode cX3_come 67 = .ok (.bipush 6, 2) := by decide +kernel
theorem dX3_come_69 : decode cX3_come 69 = .ok (.if_icmp .le 6, 3) := by decide +kernel
theorem dX3_come_72 : decode cX3_come 72 = .ok (.goto 27, 3) := by decide +kernel
theorem dX3_come_75 : decode cX3_come 75 = .ok (.iload_n 3, 1) := by decide +kernel
theorem dX3_come_76 : decode cX3_come 76 = .ok (.iconst (-1), 1) := by decide +kernel
theorem dX3_come_77 : decode cX3_come 77 = .ok (.if_icmp .eq 19, 3) := by decide +kernel
theorem dX3_come_80 : decode cX3_come 80 = .ok (.aload_n 0, 1) := by decide +kernel
theorem dX3_come_81 : decode cX3_come 81 = .ok (.iload 4, 2) := by decide +kernel
theorem dX3_come_83 : decode cX3_come 83 = .ok (.iload_n 1, 1) := by decide +kernel
theorem dX3_come_84 : decode cX3_come 84 = .ok (.invokevirtual 82, 3) := by decide +kernel
theorem dX3_come_87 : decode cX3_come 87 = .ok (.aload_n 0, 1) := by decide +kernel
theorem dX3_come_88 : decode cX3_come 88 = .ok (.iload_n 3, 1) := by decide +kernel
theorem dX3_come_89 : decode cX3_come 89 = .ok (.iload_n 1, 1) := by decide +kernel
theorem dX3_come_90 : decode cX3_come 90 = .ok (.invokevirtual 82, 3) := by decide +kernel
theorem dX3_come_93 : decode cX3_come 93 = .ok (.if_icmp .ge 6, 3) := by decide +kernel
theorem dX3_come_96 : decode cX3_come 96 = .ok (.iload 4, 2) := by decide +kernel
theorem dX3_come_98 : decode cX3_come 98 = .ok (.istore_n 3, 1) := by decide +kernel
theorem dX3_come_99 : decode cX3_come 99 = .ok (.iinc 4 1, 3) := by decide +kernel
theorem dX3_come_102 : decode cX3_come 102 = .ok (.goto (-97), 3) := by decide +kernel
theorem dX3_come_105 : decode cX3_come 105 = .ok (.iload_n 3, 1) := by decide +kernel
theorem dX3_come_106 : decode cX3_come 106 = .ok (.iconst (-1), 1) := by decide +kernel
theorem dX3_come_107 : decode cX3_come 107 = .ok (.if_icmp .ne 14, 3) := by decide +kernel
theorem dX3_come_110 : decode cX3_come 110 = .ok (.aload_n 0, 1) := by decide +kernel
theorem dX3_come_111 : decode cX3_come 111 = .ok (.dup, 1) := by decide +kernel
theorem dX3_come_112 : decode cX3_come 112 = .ok (.getfield 50, 3) := by decide +kernel
theorem dX3_come_115 : decode cX3_come 115 = .ok (.iconst 1, 1) := by decide +kernel
theorem dX3_come_116 : decode cX3_come 116 = .ok (.iadd, 1) := by decide +kernel
theorem dX3_come_117 : decode cX3_come 117 = .ok (.putfield 50, 3) := by decide +kernel
theorem dX3_come_120 : decode cX3_come 120 = .ok (.return_, 1) := by decide +kernel
theorem dX3_come_121 : decode cX3_come 121 = .ok (.aload_n 0, 1) := by decide +kernel
theorem dX3_come_122 : decode cX3_come 122 = .ok (.dup, 1) := by decide +kernel
theorem dX3_come_123 : decode cX3_come 123 = .ok (.getfield 44, 3) := by decide +kernel
theorem dX3_come_126 : decode cX3_come 126 = .ok (.iconst 1, 1) := by decide +kernel
theorem dX3_come_127 : decode cX3_come 127 = .ok (.iadd, 1) := by decide +kernel
theorem dX3_come_128 : decode cX3_come 128 = .ok (.putfield 44, 3) := by decide +kernel
theorem dX3_come_131 : decode cX3_come 131 = .ok (.aload_n 0, 1) := by decide +kernel
theorem dX3_come_132 : decode cX3_come 132 = .ok (.dup, 1) := by decide +kernel
theorem dX3_come_133 : decode cX3_come 133 = .ok (.getfield 47, 3) := by decide +kernel
theorem dX3_come_136 : decode cX3_come 136 = .ok (.aload_n 0, 1) := by decide +kernel
theorem dX3_come_137 : decode cX3_come 137 = .ok (.iload_n 3, 1) := by decide +kernel
theorem dX3_come_138 : decode cX3_come 138 = .ok (.iload_n 1, 1) := by decide +kernel
theorem dX3_come_139 : decode cX3_come 139 = .ok (.invokevirtual 82, 3) := by decide +kernel
theorem dX3_come_142 : decode cX3_come 142 = .ok (.iconst 1, 1) := by decide +kernel
theorem dX3_come_143 : decode cX3_come 143 = .ok (.if_icmp .gt 7, 3) := by decide +kernel
theorem dX3_come_146 : decode cX3_come 146 = .ok (.iconst 1, 1) := by decide +kernel
theorem dX3_come_147 : decode cX3_come 147 = .ok (.goto 4, 3) := by decide +kernel
theorem dX3_come_150 : decode cX3_come 150 = .ok (.iconst 0, 1) := by decide +kernel
theorem dX3_come_151 : decode cX3_come 151 = .ok (.iadd, 1) := by decide +kernel
theorem dX3_come_152 : decode cX3_come 152 = .ok (.putfield 47, 3) := by decide +kernel
theorem dX3_come_155 : decode cX3_come 155 = .ok (.aload_n 0, 1) := by decide +kernel
theorem dX3_come_156 : decode cX3_come 156 = .ok (.dup, 1) := by decide +kernel
theorem dX3_come_157 : decode cX3_come 157 = .ok (.getfield 76, 3) := by decide +kernel
theorem dX3_come_160 : decode cX3_come 160 = .ok (.iconst 1, 1) := by decide +kernel
theorem dX3_come_161 : decode cX3_come 161 = .ok (.iload_n 3, 1) := by decide +kernel
theorem dX3_come_162 : decode cX3_come 162 = .ok (.ishl, 1) := by decide +kernel
theorem dX3_come_163 : decode cX3_come 163 = .ok (.ior, 1) := by decide +kernel
theorem dX3_come_164 : decode cX3_come 164 = .ok (.putfield 76, 3) := by decide +kernel
theorem dX3_come_167 : decode cX3_come 167 = .ok (.aload_n 0, 1) := by decide +kernel
theorem dX3_come_168 : decode cX3_come 168 = .ok (.getfield 31, 3) := by decide +kernel
theorem dX3_come_171 : decode cX3_come 171 = .ok (.iload_n 3, 1) := by decide +kernel
theorem dX3_come_172 : decode cX3_come 172 = .ok (.dup2, 1) := by decide +kernel
theorem dX3_come_173 : decode cX3_come 173 = .ok (.iaload, 1) := by decide +kernel
theorem dX3_come_174 : decode cX3_come 174 = .ok (.iconst 1, 1) := by decide +kernel
theorem dX3_come_175 : decode cX3_come 175 = .ok (.iadd, 1) := by decide +kernel
theorem dX3_come_176 : decode cX3_come 176 = .ok (.iastore, 1) := by decide +kernel
theorem dX3_come_177 : decode cX3_come 177 = .ok (.aload_n 0, 1) := by decide +kernel
theorem dX3_come_178 : decode cX3_come 178 = .ok (.getfield 15, 3) := by decide +kernel
theorem dX3_come_181 : decode cX3_come 181 = .ok (.aload_n 0, 1) := by decide +kernel
theorem dX3_come_182 : decode cX3_come 182 = .ok (.getfield 3, 3) := by decide +kernel
theorem dX3_come_185 : decode cX3_come 185 = .ok (.getfield 79, 3) := by decide +kernel
theorem dX3_come_188 : decode cX3_come 188 = .ok (.iload_n 3, 1) := by decide +kernel
theorem dX3_come_189 : decode cX3_come 189 = .ok (.iaload, 1) := by decide +kernel
theorem dX3_come_190 : decode cX3_come 190 = .ok (.dup2, 1) := by decide +kernel
theorem dX3_come_191 : decode cX3_come 191 = .ok (.iaload, 1) := by decide +kernel
theorem dX3_come_192 : decode cX3_come 192 = .ok (.iload_n 2, 1) := by decide +kernel
theorem dX3_come_193 : decode cX3_come 193 = .ok (.isub, 1) := by decide +kernel
theorem dX3_come_194 : decode cX3_come 194 = .ok (.iastore, 1) := by decide +kernel
theorem dX3_come_195 : decode cX3_come 195 = .ok (.aload_n 0, 1) := by decide +kernel
theorem dX3_come_196 : decode cX3_come 196 = .ok (.getfield 28, 3) := by decide +kernel
theorem dX3_come_199 : decode cX3_come 199 = .ok (.iload_n 3, 1) := by decide +kernel
theorem dX3_come_200 : decode cX3_come 200 = .ok (.bipush 9, 2) := by decide +kernel
theorem dX3_come_202 : decode cX3_come 202 = .ok (.iastore, 1) := by decide +kernel
theorem dX3_come_203 : decode cX3_come 203 = .ok (.aload_n 0, 1) := by decide +kernel
theorem dX3_come_204 : decode cX3_come 204 = .ok (.getfield 22, 3) := by decide +kernel
theorem dX3_come_207 : decode cX3_come 207 = .ok (.iload_n 3, 1) := by decide +kernel
theorem dX3_come_208 : decode cX3_come 208 = .ok (.iconst 0, 1) := by decide +kernel
theorem dX3_come_209 : decode cX3_come 209 = .ok (.aload_n 0, 1) := by decide +kernel
theorem dX3_come_210 : decode cX3_come 210 = .ok (.getfield 22, 3) := by decide +kernel
theorem dX3_come_213 : decode cX3_come 213 = .ok (.iload_n 3, 1) := by decide +kernel
theorem dX3_come_214 : decode cX3_come 214 = .ok (.iaload, 1) := by decide +kernel
theorem dX3_come_215 : decode cX3_come 215 = .ok (.iload_n 2, 1) := by decide +kernel
theorem dX3_come_216 : decode cX3_come 216 = .ok (.isub, 1) := by decide +kernel
theorem dX3_come_217 : decode cX3_come 217 = .ok (.invokestatic 60, 3) := by decide +kernel
theorem dX3_come_220 : decode cX3_come 220 = .ok (.iastore, 1) := by decide +kernel
theorem dX3_come_221 : decode cX3_come 221 = .ok (.iload_n 2, 1) := by decide +kernel
theorem dX3_come_222 : decode cX3_come 222 = .ok (.aload_n 0, 1) := by decide +kernel
theorem dX3_come_223 : decode cX3_come 223 = .ok (.getfield 3, 3) := by decide +kernel
theorem dX3_come_226 : decode cX3_come 226 = .ok (.getfield 57, 3) := by decide +kernel
theorem dX3_come_229 : decode cX3_come 229 = .ok (.iload_n 3, 1) := by decide +kernel
theorem dX3_come_230 : decode cX3_come 230 = .ok (.iaload, 1) := by decide +kernel
theorem dX3_come_231 : decode cX3_come 231 = .ok (.iconst 3, 1) := by decide +kernel
theorem dX3_come_232 : decode cX3_come 232 = .ok (.iadd, 1) := by decide +kernel
theorem dX3_come_233 : decode cX3_come 233 = .ok (.if_icmp .gt 4, 3) := by decide +kernel
theorem dX3_come_236 : decode cX3_come 236 = .ok (.return_, 1) := by decide +kernel
theorem dX3_come_237 : decode cX3_come 237 = .ok (.aload_n 0, 1) := by decide +kernel
theorem dX3_come_238 : decode cX3_come 238 = .ok (.getfield 25, 3) := by decide +kernel
theorem dX3_come_241 : decode cX3_come 241 = .ok (.iload_n 3, 1) := by decide +kernel
theorem dX3_come_242 : decode cX3_come 242 = .ok (.iconst 1, 1) := by decide +kernel
theorem dX3_come_243 : decode cX3_come 243 = .ok (.iastore, 1) := by decide +kernel
theorem dX3_come_244 : decode cX3_come 244 = .ok (.aload_n 0, 1) := by decide +kernel
theorem dX3_come_245 : decode cX3_come 245 = .ok (.getfield 22, 3) := by decide +kernel
theorem dX3_come_248 : decode cX3_come 248 = .ok (.iload_n 3, 1) := by decide +kernel
theorem dX3_come_249 : decode cX3_come 249 = .ok (.iconst 0, 1) := by decide +kernel
theorem dX3_come_250 : decode cX3_come 250 = .ok (.iastore, 1) := by decide +kernel
theorem dX3_come_251 : decode cX3_come 251 = .ok (.aload_n 0, 1) := by decide +kernel
theorem dX3_come_252 : decode cX3_come 252 = .ok (.getfield 28, 3) := by decide +kernel
theorem dX3_come_255 : decode cX3_come 255 = .ok (.iload_n 3, 1) := by decide +kernel
theorem dX3_come_256 : decode cX3_come 256 = .ok (.iconst 0, 1) := by decide +kernel
theorem dX3_come_257 : decode cX3_come 257 = .ok (.iastore, 1) := by decide +kernel
theorem dX3_come_258 : decode cX3_come 258 = .ok (.return_, 1) := by decide +kernel
set_option maxRecDepth 20000 in
theorem ggX3_pass_X3_come : GoodIn wsX3_pass wsX3_come := goodIn_r _ [19, 8, 20, 7, 1, 21, 22, 23, 24, 10, 14, 11, 12, 5, 13, 25, 26, 27, 18, 28, 29, 30, 31, 32, 33, 34, 35, 36, 37, 38, 39, 40, 41, 42, 43, 44, 45, 46, 47, 48, 49, 50, 51, 52, 53, 54, 55, 56] (by decide +kernel) (by decide +kernel)
set_option maxRecDepth 20000 in
theorem gX3_pass_X3_come : GoodIn wsX3_pass (wsV RX3 97 RX3 yX3_come wsX3_come) := goodIn_app (goodIn_of _ (by decide +kernel)) ggX3_pass_X3_come
theorem dX3_pass_0 : decode cX3_pass 0 = .ok (.iconst 0, 1) := by decide +kernel
theorem dX3_pass_1 : decode cX3_pass 1 = .ok (.istore_n 1, 1) := by decide +kernel
theorem dX3_pass_2 : decode cX3_pass 2 = .ok (.iload_n 1, 1) := by decide +kernel
theorem dX3_pass_3 : decode cX3_pass 3 = .ok (.iconst 4, 1) := by decide +kernel
theorem dX3_pass_4 : decode cX3_pass 4 = .ok (.if_icmp .ge 33, 3) := by decide +kernel
theorem dX3_pass_7 : decode cX3_pass 7 = .ok (.aload_n 0, 1) := by decide +kernel
theorem dX3_pass_8 : decode cX3_pass 8 = .ok (.getfield 15, 3) := by decide +kernel
theorem dX3_pass_11 : decode cX3_pass 11 = .ok (.iload_n 1, 1) := by decide +kernel
theorem dX3_pass_12 : decode cX3_pass 12 = .ok (.bipush 60, 2) := by decide +kernel
theorem dX3_pass_14 : decode cX3_pass 14 = .ok (.aload_n 0, 1) := by decide +kernel
theorem dX3_pass_15 : decode cX3_pass 15 = .ok (.getfield 15, 3) := by decide +kernel
theorem dX3_pass_18 : decode cX3_pass 18 = .ok (.iload_n 1, 1) := by decide +kernel
theorem dX3_pass_19 : decode cX3_pass 19 = .ok (.iaload, 1) := by decide +kernel
theorem dX3_pass_20 : decode cX3_pass 20 = .ok (.aload_n 0, 1) := by decide +kernel
theorem dX3_pass_21 : decode cX3_pass 21 = .ok (.getfield 19, 3) := by decide +kernel
theorem dX3_pass_24 : decode cX3_pass 24 = .ok (.iload_n 1, 1) := by decide +kernel
theorem dX3_pass_25 : decode cX3_pass 25 = .ok (.iaload, 1) := by decide +kernel
theorem dX3_pass_26 : decode cX3_pass 26 = .ok (.iadd, 1) := by decide +kernel
theorem dX3_pass_27 : decode cX3_pass 27 = .ok (.invokestatic 85, 3) := by decide +kernel
theorem dX3_pass_30 : decode cX3_pass 30 = .ok (.iastore, 1) := by decide +kernel
theorem dX3_pass_31 : decode cX3_pass 31 = .ok (.iinc 1 1, 3) := by decide +kernel
theorem dX3_pass_34 : decode cX3_pass 34 = .ok (.goto (-32), 3) := by decide +kernel
theorem dX3_pass_37 : decode cX3_pass 37 = .ok (.aload_n 0, 1) := by decide +kernel
theorem dX3_pass_38 : decode cX3_pass 38 = .ok (.iconst 0, 1) := by decide +kernel
theorem dX3_pass_39 : decode cX3_pass 39 = .ok (.putfield 76, 3) := by decide +kernel
theorem dX3_pass_42 : decode cX3_pass 42 = .ok (.iconst 0, 1) := by decide +kernel
theorem dX3_pass_43 : decode cX3_pass 43 = .ok (.istore_n 1, 1) := by decide +kernel
theorem dX3_pass_44 : decode cX3_pass 44 = .ok (.iload_n 1, 1) := by decide +kernel
theorem dX3_pass_45 : decode cX3_pass 45 = .ok (.aload_n 0, 1) := by decide +kernel
theorem dX3_pass_46 : decode cX3_pass 46 = .ok (.getfield 3, 3) := by decide +kernel
theorem dX3_pass_49 : decode cX3_pass 49 = .ok (.getfield 88, 3) := by decide +kernel
theorem dX3_pass_52 : decode cX3_pass 52 = .ok (.if_icmp .ge 65, 3) := by decide +kernel
theorem dX3_pass_55 : decode cX3_pass 55 = .ok (.aload_n 0, 1) := by decide +kernel
theorem dX3_pass_56 : decode cX3_pass 56 = .ok (.getfield 3, 3) := by decide +kernel
theorem dX3_pass_59 : decode cX3_pass 59 = .ok (.getfield 91, 3) := by decide +kernel
theorem dX3_pass_62 : decode cX3_pass 62 = .ok (.iconst 3, 1) := by decide +kernel
theorem dX3_pass_63 : decode cX3_pass 63 = .ok (.iload_n 1, 1) := by decide +kernel
theorem dX3_pass_64 : decode cX3_pass 64 = .ok (.imul, 1) := by decide +kernel
theorem dX3_pass_65 : decode cX3_pass 65 = .ok (.iaload, 1) := by decide +kernel
theorem dX3_pass_66 : decode cX3_pass 66 = .ok (.aload_n 0, 1) := by decide +kernel
theorem dX3_pass_67 : decode cX3_pass 67 = .ok (.getfield 40, 3) := by decide +kernel
theorem dX3_pass_70 : decode cX3_pass 70 = .ok (.aload_n 0, 1) := by decide +kernel
theorem dX3_pass_71 : decode cX3_pass 71 = .ok (.getfield 3, 3) := by decide +kernel
theorem dX3_pass_74 : decode cX3_pass 74 = .ok (.getfield 94, 3) := by decide +kernel
theorem dX3_pass_77 : decode cX3_pass 77 = .ok (.irem, 1) := by decide +kernel
theorem dX3_pass_78 : decode cX3_pass 78 = .ok (.if_icmp .ne 33, 3) := by decide +kernel
theorem dX3_pass_81 : decode cX3_pass 81 = .ok (.aload_n 0, 1) := by decide +kernel
theorem dX3_pass_82 : decode cX3_pass 82 = .ok (.aload_n 0, 1) := by decide +kernel
theorem dX3_pass_83 : decode cX3_pass 83 = .ok (.getfield 3, 3) := by decide +kernel
theorem dX3_pass_86 : decode cX3_pass 86 = .ok (.getfield 91, 3) := by decide +kernel
theorem dX3_pass_89 : decode cX3_pass 89 = .ok (.iconst 3, 1) := by decide +kernel
theorem dX3_pass_90 : decode cX3_pass 90 = .ok (.iload_n 1, 1) := by decide +kernel
theorem dX3_pass_91 : decode cX3_pass 91 = .ok (.imul, 1) := by decide +kernel
theorem dX3_pass_92 : decode cX3_pass 92 = .ok (.iconst 1, 1) := by decide +kernel
theorem dX3_pass_93 : decode cX3_pass 93 = .ok (.iadd, 1) := by decide +kernel
theorem dX3_pass_94 : decode cX3_pass 94 = .ok (.iaload, 1) := by decide +kernel
theorem dX3_pass_95 : decode cX3_pass 95 = .ok (.aload_n 0, 1) := by decide +kernel
theorem dX3_pass_96 : decode cX3_pass 96 = .ok (.getfield 3, 3) := by decide +kernel
theorem dX3_pass_99 : decode cX3_pass 99 = .ok (.getfield 91, 3) := by decide +kernel
theorem dX3_pass_102 : decode cX3_pass 102 = .ok (.iconst 3, 1) := by decide +kernel
theorem dX3_pass_103 : decode cX3_pass 103 = .ok (.iload_n 1, 1) := by decide +kernel
theorem dX3_pass_104 : decode cX3_pass 104 = .ok (.imul, 1) := by decide +kernel
theorem dX3_pass_105 : decode cX3_pass 105 = .ok (.iconst 2, 1) := by decide +kernel
theorem dX3_pass_106 : decode cX3_pass 106 = .ok (.iadd, 1) := by decide +kernel
theorem dX3_pass_107 : decode cX3_pass 107 = .ok (.iaload, 1) := by decide +kernel
theorem dX3_pass_108 : decode cX3_pass 108 = .ok (.invokevirtual 97, 3) := by decide +kernel
theorem dX3_pass_111 : decode cX3_pass 111 = .ok (.iinc 1 1, 3) := by decide +kernel
theorem dX3_pass_114 : decode cX3_pass 114 = .ok (.goto (-70), 3) := by decide +kernel
theorem dX3_pass_117 : decode cX3_pass 117 = .ok (.iconst 0, 1) := by decide +kernel
theorem dX3_pass_118 : decode cX3_pass 118 = .ok (.istore_n 1, 1) := by decide +kernel
theorem dX3_pass_119 : decode cX3_pass 119 = .ok (.iload_n 1, 1) := by decide +kernel
theorem dX3_pass_120 : decode cX3_pass 120 = .ok (.aload_n 0, 1) := by decide +kernel
theorem dX3_pass_121 : decode cX3_pass 121 = .ok (.getfield 3, 3) := by decide +kernel
theorem dX3_pass_124 : decode cX3_pass 124 = .ok (.getfield 73, 3) := by decide +kernel
theorem dX3_pass_127 : decode cX3_pass 127 = .ok (.if_icmp .ge 66, 3) := by decide +kernel
theorem dX3_pass_130 : decode cX3_pass 130 = .ok (.aload_n 0, 1) := by decide +kernel
theorem dX3_pass_131 : decode cX3_pass 131 = .ok (.getfield 76, 3) := by decide +kernel
theorem dX3_pass_134 : decode cX3_pass 134 = .ok (.iload_n 1, 1) := by decide +kernel
theorem dX3_pass_135 : decode cX3_pass 135 = .ok (.ishr, 1) := by decide +kernel
theorem dX3_pass_136 : decode cX3_pass 136 = .ok (.iconst 1, 1) := by decide +kernel
theorem dX3_pass_137 : decode cX3_pass 137 = .ok (.iand, 1) := by decide +kernel
theorem dX3_pass_138 : decode cX3_pass 138 = .ok (.ifCond .ne 21, 3) := by decide +kernel
theorem dX3_pass_141 : decode cX3_pass 141 = .ok (.aload_n 0, 1) := by decide +kernel
theorem dX3_pass_142 : decode cX3_pass 142 = .ok (.getfield 28, 3) := by decide +kernel
theorem dX3_pass_145 : decode cX3_pass 145 = .ok (.iload_n 1, 1) := by decide +kernel
theorem dX3_pass_146 : decode cX3_pass 146 = .ok (.iconst 0, 1) := by decide +kernel
theorem dX3_pass_147 : decode cX3_pass 147 = .ok (.aload_n 0, 1) := by decide +kernel
theorem dX3_pass_148 : decode cX3_pass 148 = .ok (.getfield 28, 3) := by decide +kernel
theorem dX3_pass_151 : decode cX3_pass 151 = .ok (.iload_n 1, 1) := by decide +kernel
theorem dX3_pass_152 : decode cX3_pass 152 = .ok (.iaload, 1) := by decide +kernel
theorem dX3_pass_153 : decode cX3_pass 153 = .ok (.iconst 1, 1) := by decide +kernel
theorem dX3_pass_154 : decode cX3_pass 154 = .ok (.isub, 1) := by decide +kernel
theorem dX3_pass_155 : decode cX3_pass 155 = .ok (.invokestatic 60, 3) := by decide +kernel
theorem dX3_pass_158 : decode cX3_pass 158 = .ok (.iastore, 1) := by decide +kernel
theorem dX3_pass_159 : decode cX3_pass 159 = .ok (.aload_n 0, 1) := by decide +kernel
theorem dX3_pass_160 : decode cX3_pass 160 = .ok (.getfield 40, 3) := by decide +kernel
theorem dX3_pass_163 : decode cX3_pass 163 = .ok (.bipush 8, 2) := by decide +kernel
theorem dX3_pass_165 : decode cX3_pass 165 = .ok (.irem, 1) := by decide +kernel
theorem dX3_pass_166 : decode cX3_pass 166 = .ok (.ifCond .ne 21, 3) := by decide +kernel
theorem dX3_pass_169 : decode cX3_pass 169 = .ok (.aload_n 0, 1) := by decide +kernel
theorem dX3_pass_170 : decode cX3_pass 170 = .ok (.getfield 22, 3) := by decide +kernel
theorem dX3_pass_173 : decode cX3_pass 173 = .ok (.iload_n 1, 1) := by decide +kernel
theorem dX3_pass_174 : decode cX3_pass 174 = .ok (.iconst 0, 1) := by decide +kernel
theorem dX3_pass_175 : decode cX3_pass 175 = .ok (.aload_n 0, 1) := by decide +kernel
theorem dX3_pass_176 : decode cX3_pass 176 = .ok (.getfield 22, 3) := by decide +kernel
theorem dX3_pass_179 : decode cX3_pass 179 = .ok (.iload_n 1, 1) := by decide +kernel
theorem dX3_pass_180 : decode cX3_pass 180 = .ok (.iaload, 1) := by decide +kernel
theorem dX3_pass_181 : decode cX3_pass 181 = .ok (.iconst 1, 1) := by decide +kernel
theorem dX3_pass_182 : decode cX3_pass 182 = .ok (.isub, 1) := by decide +kernel
theorem dX3_pass_183 : decode cX3_pass 183 = .ok (.invokestatic 60, 3) := by decide +kernel
theorem dX3_pass_186 : decode cX3_pass 186 = .ok (.iastore, 1) := by decide +kernel
theorem dX3_pass_187 : decode cX3_pass 187 = .ok (.iinc 1 1, 3) := by decide +kernel
theorem dX3_pass_190 : decode cX3_pass 190 = .ok (.goto (-71), 3) := by decide +kernel
theorem dX3_pass_193 : decode cX3_pass 193 = .ok (.aload_n 0, 1) := by decide +kernel
theorem dX3_pass_194 : decode cX3_pass 194 = .ok (.dup, 1) := by decide +kernel
theorem dX3_pass_195 : decode cX3_pass 195 = .ok (.getfield 40, 3) := by decide +kernel
theorem dX3_pass_198 : decode cX3_pass 198 = .ok (.iconst 1, 1) := by decide +kernel
theorem dX3_pass_199 : decode cX3_pass 199 = .ok (.iadd, 1) := by decide +kernel
theorem dX3_pass_200 : decode cX3_pass 200 = .ok (.putfield 40, 3) := by decide +kernel
theorem dX3_pass_203 : decode cX3_pass 203 = .ok (.return_, 1) := by decide +kernel
theorem dX3_cracked_0 : decode cX3_cracked 0 = .ok (.iconst 0, 1) := by decide +kernel
theorem dX3_cracked_1 : decode cX3_cracked 1 = .ok (.istore_n 1, 1) := by decide +kernel
theorem dX3_cracked_2 : decode cX3_cracked 2 = .ok (.iconst 0, 1) := by decide +kernel
theorem dX3_cracked_3 : decode cX3_cracked 3 = .ok (.istore_n 2, 1) := by decide +kernel
theorem dX3_cracked_4 : decode cX3_cracked 4 = .ok (.iload_n 2, 1) := by decide +kernel
theorem dX3_cracked_5 : decode cX3_cracked 5 = .ok (.aload_n 0, 1) := by decide +kernel
theorem dX3_cracked_6 : decode cX3_cracked 6 = .ok (.getfield 3, 3) := by decide +kernel
theorem dX3_cracked_9 : decode cX3_cracked 9 = .ok (.getfield 73, 3) := by decide +kernel
theorem dX3_cracked_12 : decode cX3_cracked 12 = .ok (.if_icmp .ge 18, 3) := by decide +kernel
theorem dX3_cracked_15 : decode cX3_cracked 15 = .ok (.iload_n 1, 1) := by decide +kernel
theorem dX3_cracked_16 : decode cX3_cracked 16 = .ok (.aload_n 0, 1) := by decide +kernel
theorem dX3_cracked_17 : decode cX3_cracked 17 = .ok (.getfield 25, 3) := by decide +kernel
theorem dX3_cracked_20 : decode cX3_cracked 20 = .ok (.iload_n 2, 1) := by decide +kernel
theorem dX3_cracked_21 : decode cX3_cracked 21 = .ok (.iaload, 1) := by decide +kernel
theorem dX3_cracked_22 : decode cX3_cracked 22 = .ok (.iadd, 1) := by decide +kernel
theorem dX3_cracked_23 : decode cX3_cracked 23 = .ok (.istore_n 1, 1) := by decide +kernel
theorem dX3_cracked_24 : decode cX3_cracked 24 = .ok (.iinc 2 1, 3) := by decide +kernel
theorem dX3_cracked_27 : decode cX3_cracked 27 = .ok (.goto (-23), 3) := by decide +kernel
theorem dX3_cracked_30 : decode cX3_cracked 30 = .ok (.iload_n 1, 1) := by decide +kernel
theorem dX3_cracked_31 : decode cX3_cracked 31 = .ok (.ireturn, 1) := by decide +kernel
set_option maxRecDepth 20000 in
theorem ggX3_isAgainst_X3_tone : GoodIn wsX3_isAgainst wsX3_tone := goodIn_r _ [10, 11, 12, 13, 14, 3, 15, 16, 17, 18, 19, 20, 21, 22, 23, 24, 25, 26, 27, 28, 29, 30, 31, 32, 33, 34, 35, 36] (by decide +kernel) (by decide +kernel)
set_option maxRecDepth 20000 in
theorem gX3_isAgainst_X3_tone : GoodIn wsX3_isAgainst (wsV RX3 66 RX3 yX3_tone wsX3_tone) := goodIn_app (goodIn_of _ (by decide +kernel)) ggX3_isAgainst_X3_tone
theorem dX3_isAgainst_0 : decode cX3_isAgainst 0 = .ok (.aload_n 0, 1) := by decide +kernel
theorem dX3_isAgainst_1 : decode cX3_isAgainst 1 = .ok (.iload_n 1, 1) := by decide +kernel
theorem dX3_isAgainst_2 : decode cX3_isAgainst 2 = .ok (.invokevirtual 66, 3) := by decide +kernel
theorem dX3_isAgainst_5 : decode cX3_isAgainst 5 = .ok (.aload_n 0, 1) := by decide +kernel
theorem dX3_isAgainst_6 : decode cX3_isAgainst 6 = .ok (.iload_n 2, 1) := by decide +kernel
theorem dX3_isAgainst_7 : decode cX3_isAgainst 7 = .ok (.invokevirtual 66, 3) := by decide +kernel
theorem dX3_isAgainst_10 : decode cX3_isAgainst 10 = .ok (.isub, 1) := by decide +kernel
theorem dX3_isAgainst_11 : decode cX3_isAgainst 11 = .ok (.invokestatic 70, 3) := by decide +kernel
theorem dX3_isAgainst_14 : decode cX3_isAgainst 14 = .ok (.istore_n 3, 1) := by decide +kernel
theorem dX3_isAgainst_15 : decode cX3_isAgainst 15 = .ok (.aload_n 0, 1) := by decide +kernel
theorem dX3_isAgainst_16 : decode cX3_isAgainst 16 = .ok (.getfield 28, 3) := by decide +kernel
theorem dX3_isAgainst_19 : decode cX3_isAgainst 19 = .ok (.iload_n 1, 1) := by decide +kernel
theorem dX3_isAgainst_20 : decode cX3_isAgainst 20 = .ok (.iaload, 1) := by decide +kernel
theorem dX3_isAgainst_21 : decode cX3_isAgainst 21 = .ok (.ifCond .le 26, 3) := by decide +kernel
theorem dX3_isAgainst_24 : decode cX3_isAgainst 24 = .ok (.aload_n 0, 1) := by decide +kernel
theorem dX3_isAgainst_25 : decode cX3_isAgainst 25 = .ok (.getfield 28, 3) := by decide +kernel
theorem dX3_isAgainst_28 : decode cX3_isAgainst 28 = .ok (.iload_n 2, 1) := by decide +kernel
theorem dX3_isAgainst_29 : decode cX3_isAgainst 29 = .ok (.iaload, 1) := by decide +kernel
theorem dX3_isAgainst_30 : decode cX3_isAgainst 30 = .ok (.ifCond .le 17, 3) := by decide +kernel
theorem dX3_isAgainst_33 : decode cX3_isAgainst 33 = .ok (.iload_n 3, 1) := by decide +kernel
theorem dX3_isAgainst_34 : decode cX3_isAgainst 34 = .ok (.iconst 1, 1) := by decide +kernel
theorem dX3_isAgainst_35 : decode cX3_isAgainst 35 = .ok (.if_icmp .eq 8, 3) := by decide +kernel
theorem dX3_isAgainst_38 : decode cX3_isAgainst 38 = .ok (.iload_n 3, 1) := by decide +kernel
theorem dX3_isAgainst_39 : decode cX3_isAgainst 39 = .ok (.iconst 2, 1) := by decide +kernel
theorem dX3_isAgainst_40 : decode cX3_isAgainst 40 = .ok (.if_icmp .ne 7, 3) := by decide +kernel
theorem dX3_isAgainst_43 : decode cX3_isAgainst 43 = .ok (.iconst 1, 1) := by decide +kernel
theorem dX3_isAgainst_44 : decode cX3_isAgainst 44 = .ok (.goto 4, 3) := by decide +kernel
theorem dX3_isAgainst_47 : decode cX3_isAgainst 47 = .ok (.iconst 0, 1) := by decide +kernel
theorem dX3_isAgainst_48 : decode cX3_isAgainst 48 = .ok (.ireturn, 1) := by decide +kernel
end
section
set_option maxRecDepth 20000 in
theorem ggX4_init_X3_init : GoodIn wsX4_init wsX3_init := goodIn_r _ [15, 16, 17, 2, 3, 5, 18, 19, 20, 21, 22, 23, 33, 34, 35, 36, 37, 38, 39, 40, 41, 42, 43, 44] (by decide +kernel) (by decide +kernel)
set_option maxRecDepth 20000 in
theorem gX4_init_X3_init_n25 : GoodIn wsX4_init (wsX3_init) := ggX4_init_X3_init
theorem dX4_init_0 : decode cX4_init 0 = .ok (.aload_n 0, 1) := by decide +kernel
theorem dX4_init_1 : decode cX4_init 1 = .ok (.invokespecial 1, 3) := by decide +kernel
theorem dX4_init_4 : decode cX4_init 4 = .ok (.aload_n 0, 1) := by decide +kernel
theorem dX4_init_5 : decode cX4_init 5 = .ok (.bipush 16, 2) := by decide +kernel
theorem dX4_init_7 : decode cX4_init 7 = .ok (.putfield 7, 3) := by decide +kernel
theorem dX4_init_10 : decode cX4_init 10 = .ok (.aload_n 0, 1) := by decide +kernel
theorem dX4_init_11 : decode cX4_init 11 = .ok (.bipush 96, 2) := by decide +kernel
theorem dX4_init_13 : decode cX4_init 13 = .ok (.newarray .int, 2) := by decide +kernel
theorem dX4_init_15 : decode cX4_init 15 = .ok (.putfield 13, 3) := by decide +kernel
theorem dX4_init_18 : decode cX4_init 18 = .ok (.aload_n 0, 1) := by decide +kernel
theorem dX4_init_19 : decode cX4_init 19 = .ok (.bipush 16, 2) := by decide +kernel
theorem dX4_init_21 : decode cX4_init 21 = .ok (.newarray .int, 2) := by decide +kernel
theorem dX4_init_23 : decode cX4_init 23 = .ok (.putfield 17, 3) := by decide +kernel
theorem dX4_init_26 : decode cX4_init 26 = .ok (.aload_n 0, 1) := by decide +kernel
theorem dX4_init_27 : decode cX4_init 27 = .ok (.bipush 16, 2) := by decide +kernel
theorem dX4_init_29 : decode cX4_init 29 = .ok (.newarray .int, 2) := by decide +kernel
theorem dX4_init_31 : decode cX4_init 31 = .ok (.putfield 20, 3) := by decide +kernel
theorem dX4_init_34 : decode cX4_init 34 = .ok (.aload_n 0, 1) := by decide +kernel
theorem dX4_init_35 : decode cX4_init 35 = .ok (.new 23, 3) := by decide +kernel
theorem dX4_init_38 : decode cX4_init 38 = .ok (.dup, 1) := by decide +kernel
theorem dX4_init_39 : decode cX4_init 39 = .ok (.aload_n 0, 1) := by decide +kernel
theorem dX4_init_40 : decode cX4_init 40 = .ok (.invokespecial 25, 3) := by decide +kernel
theorem dX4_init_43 : decode cX4_init 43 = .ok (.putfield 28, 3) := by decide +kernel
theorem dX4_init_46 : decode cX4_init 46 = .ok (.aload_n 0, 1) := by decide +kernel
theorem dX4_init_47 : decode cX4_init 47 = .ok (.new 23, 3) := by decide +kernel
theorem dX4_init_50 : decode cX4_init 50 = .ok (.dup, 1) := by decide +kernel
theorem dX4_init_51 : decode cX4_init 51 = .ok (.aload_n 0, 1) := by decide +kernel
theorem dX4_init_52 : decode cX4_init 52 = .ok (.invokespecial 25, 3) := by decide +kernel
theorem dX4_init_55 : decode cX4_init 55 = .ok (.putfield 32, 3) := by decide +kernel
theorem dX4_init_58 : decode cX4_init 58 = .ok (.return_, 1) := by decide +kernel
theorem dX4_thrown_0 : decode cX4_thrown 0 = .ok (.aload_n 0, 1) := by decide +kernel
theorem dX4_thrown_1 : decode cX4_thrown 1 = .ok (.getfield 35, 3) := by decide +kernel
theorem dX4_thrown_4 : decode cX4_thrown 4 = .ok (.ireturn, 1) := by decide +kernel
theorem dX4_no_0 : decode cX4_no 0 = .ok (.aload_n 0, 1) := by decide +kernel
theorem dX4_no_1 : decode cX4_no 1 = .ok (.iload_n 1, 1) := by decide +kernel
theorem dX4_no_2 : decode cX4_no 2 = .ok (.putfield 35, 3) := by decide +kernel
theorem dX4_no_5 : decode cX4_no 5 = .ok (.iconst 0, 1) := by decide +kernel
theorem dX4_no_6 : decode cX4_no 6 = .ok (.ireturn, 1) := by decide +kernel
theorem dX4_isIn_0 : decode cX4_isIn 0 = .ok (.iload_n 0, 1) := by decide +kernel
theorem dX4_isIn_1 : decode cX4_isIn 1 = .ok (.iload_n 1, 1) := by decide +kernel
theorem dX4_isIn_2 : decode cX4_isIn 2 = .ok (.if_icmp .lt 12, 3) := by decide +kernel
theorem dX4_isIn_5 : decode cX4_isIn 5 = .ok (.iload_n 0, 1) := by decide +kernel
theorem dX4_isIn_6 : decode cX4_isIn 6 = .ok (.iload_n 2, 1) := by decide +kernel
theorem dX4_isIn_7 : decode cX4_isIn 7 = .ok (.if_icmp .gt 7, 3) := by decide +kernel
theorem dX4_isIn_10 : decode cX4_isIn 10 = .ok (.iconst 1, 1) := by decide +kernel
theorem dX4_isIn_11 : decode cX4_isIn 11 = .ok (.goto 4, 3) := by decide +kernel
theorem dX4_isIn_14 : decode cX4_isIn 14 = .ok (.iconst 0, 1) := by decide +kernel
theorem dX4_isIn_15 : decode cX4_isIn 15 = .ok (.ireturn, 1) := by decide +kernel
set_option maxRecDepth 20000 in
theorem ggX4_isGlass_X4_isIn : GoodIn wsX4_isGlass wsX4_isIn := goodIn_r _ [5] (by decide +kernel) (by decide +kernel)
set_option maxRecDepth 20000 in
theorem gX4_isGlass_X4_isIn : GoodIn wsX4_isGlass (va_wsS RX4 41 yX4_isIn wsX4_isIn) := goodIn_app (goodIn_of _ (by decide +kernel)) ggX4_isGlass_X4_isIn
theorem dX4_isGlass_0 : decode cX4_isGlass 0 = .ok (.iload_n 1, 1) := by decide +kernel
theorem dX4_isGlass_1 : decode cX4_isGlass 1 = .ok (.iconst 0, 1) := by decide +kernel
theorem dX4_isGlass_2 : decode cX4_isGlass 2 = .ok (.aload_n 0, 1) := by decide +kernel
theorem dX4_isGlass_3 : decode cX4_isGlass 3 = .ok (.getfield 38, 3) := by decide +kernel
theorem dX4_isGlass_6 : decode cX4_isGlass 6 = .ok (.iconst 1, 1) := by decide +kernel
theorem dX4_isGlass_7 : decode cX4_isGlass 7 = .ok (.isub, 1) := by decide +kernel
theorem dX4_isGlass_8 : decode cX4_isGlass 8 = .ok (.invokestatic 41, 3) := by decide +kernel
theorem dX4_isGlass_11 : decode cX4_isGlass 11 = .ok (.ireturn, 1) := by decide +kernel
set_option maxRecDepth 20000 in
theorem ggX4_isRow_X4_isIn : GoodIn wsX4_isRow wsX4_isIn := goodIn_r _ [4] (by decide +kernel) (by decide +kernel)
set_option maxRecDepth 20000 in
theorem gX4_isRow_X4_isIn : GoodIn wsX4_isRow (va_wsS RX4 41 yX4_isIn wsX4_isIn) := goodIn_app (goodIn_of _ (by decide +kernel)) ggX4_isRow_X4_isIn
theorem dX4_isRow_0 : decode cX4_isRow 0 = .ok (.iload_n 0, 1) := by decide +kernel
theorem dX4_isRow_1 : decode cX4_isRow 1 = .ok (.iconst 0, 1) := by decide +kernel
theorem dX4_isRow_2 : decode cX4_isRow 2 = .ok (.iconst 3, 1) := by decide +kernel
theorem dX4_isRow_3 : decode cX4_isRow 3 = .ok (.invokestatic 41, 3) := by decide +kernel
theorem dX4_isRow_6 : decode cX4_isRow 6 = .ok (.ireturn, 1) := by decide +kernel
set_option maxRecDepth 20000 in
theorem ggX4_set_X4_isRow : GoodIn wsX4_set wsX4_isRow := goodIn_r _ [9, 10, 11, 8, 12] (by decide +kernel) (by decide +kernel)
set_option maxRecDepth 20000 in
theorem gX4_set_X4_isRow : GoodIn wsX4_set (va_wsS RX4 45 yX4_isRow wsX4_isRow) := goodIn_app (goodIn_of _ (by decide +kernel)) ggX4_set_X4_isRow
set_option maxRecDepth 20000 in
theorem ggX4_set_X4_isIn : GoodIn wsX4_set wsX4_isIn := goodIn_r _ [12] (by decide +kernel) (by decide +kernel)
set_option maxRecDepth 20000 in
theorem gX4_set_X4_isIn : GoodIn wsX4_set (va_wsS RX4 41 yX4_isIn wsX4_isIn) := goodIn_app (goodIn_of _ (by decide +kernel)) ggX4_set_X4_isIn
set_option maxRecDepth 20000 in
theorem ggX4_set_X4_no : GoodIn wsX4_set wsX4_no := goodIn_r _ [16, 1, 17, 18, 19, 20, 21, 22, 23, 24, 25] (by decide +kernel) (by decide +kernel)
set_option maxRecDepth 20000 in
theorem gX4_set_X4_no : GoodIn wsX4_set (wsV RX4 49 RX4 yX4_no wsX4_no) := goodIn_app (goodIn_of _ (by decide +kernel)) ggX4_set_X4_no
theorem dX4_set_0 : decode cX4_set 0 = .ok (.aload_n 0, 1) := by decide +kernel
theorem dX4_set_1 : decode cX4_set 1 = .ok (.iconst 0, 1) := by decide +kernel
theorem dX4_set_2 : decode cX4_set 2 = .ok (.putfield 35, 3) := by decide +kernel
theorem dX4_set_5 : decode cX4_set 5 = .ok (.iload_n 1, 1) := by decide +kernel
theorem dX4_set_6 : decode cX4_set 6 = .ok (.invokestatic 45, 3) := by decide +kernel
theorem dX4_set_9 : decode cX4_set 9 = .ok (.ifCond .eq 25, 3) := by decide +kernel
theorem dX4_set_12 : decode cX4_set 12 = .ok (.iload_n 2, 1) := by decide +kernel
theorem dX4_set_13 : decode cX4_set 13 = .ok (.iconst 1, 1) := by decide +kernel
theorem dX4_set_14 : decode cX4_set 14 = .ok (.bipush 9, 2) := by decide +kernel
theorem dX4_set_16 : decode cX4_set 16 = .ok (.invokestatic 41, 3) := by decide +kernel
theorem dX4_set_19 : decode cX4_set 19 = .ok (.ifCond .eq 15, 3) := by decide +kernel
theorem dX4_set_22 : decode cX4_set 22 = .ok (.iload_n 3, 1) := by decide +kernel
theorem dX4_set_23 : decode cX4_set 23 = .ok (.iconst 0, 1) := by decide +kernel
theorem dX4_set_24 : decode cX4_set 24 = .ok (.bipush 100, 2) := by decide +kernel
theorem dX4_set_26 : decode cX4_set 26 = .ok (.iload_n 2, 1) := by decide +kernel
theorem dX4_set_27 : decode cX4_set 27 = .ok (.imul, 1) := by decide +kernel
theorem dX4_set_28 : decode cX4_set 28 = .ok (.invokestatic 41, 3) := by decide +kernel
theorem dX4_set_31 : decode cX4_set 31 = .ok (.ifCond .ne 9, 3) := by decide +kernel
theorem dX4_set_34 : decode cX4_set 34 = .ok (.aload_n 0, 1) := by decide +kernel
theorem dX4_set_35 : decode cX4_set 35 = .ok (.iconst 1, 1) := by decide +kernel
theorem dX4_set_36 : decode cX4_set 36 = .ok (.invokevirtual 49, 3) := by decide +kernel
theorem dX4_set_39 : decode cX4_set 39 = .ok (.ireturn, 1) := by decide +kernel
theorem dX4_set_40 : decode cX4_set 40 = .ok (.aload_n 0, 1) := by decide +kernel
theorem dX4_set_41 : decode cX4_set 41 = .ok (.getfield 38, 3) := by decide +kernel
theorem dX4_set_44 : decode cX4_set 44 = .ok (.bipush 16, 2) := by decide +kernel
theorem dX4_set_46 : decode cX4_set 46 = .ok (.if_icmp .ne 9, 3) := by decide +kernel
theorem dX4_set_49 : decode cX4_set 49 = .ok (.aload_n 0, 1) := by decide +kernel
theorem dX4_set_50 : decode cX4_set 50 = .ok (.iconst 2, 1) := by decide +kernel
theorem dX4_set_51 : decode cX4_set 51 = .ok (.invokevirtual 49, 3) := by decide +kernel
theorem dX4_set_54 : decode cX4_set 54 = .ok (.ireturn, 1) := by decide +kernel
theorem dX4_set_55 : decode cX4_set 55 = .ok (.aload_n 0, 1) := by decide +kernel
theorem dX4_set_56 : decode cX4_set 56 = .ok (.getfield 17, 3) := by decide +kernel
theorem dX4_set_59 : decode cX4_set 59 = .ok (.aload_n 0, 1) := by decide +kernel
theorem dX4_set_60 : decode cX4_set 60 = .ok (.getfield 38, 3) := by decide +kernel
theorem dX4_set_63 : decode cX4_set 63 = .ok (.iload_n 1, 1) := by decide +kernel
theorem dX4_set_64 : decode cX4_set 64 = .ok (.iastore, 1) := by decide +kernel
theorem dX4_set_65 : decode cX4_set 65 = .ok (.aload_n 0, 1) := by decide +kernel
theorem dX4_set_66 : decode cX4_set 66 = .ok (.getfield 20, 3) := by decide +kernel
theorem dX4_set_69 : decode cX4_set 69 = .ok (.aload_n 0, 1) := by decide +kernel
theorem dX4_set_70 : decode cX4_set 70 = .ok (.getfield 38, 3) := by decide +kernel
theorem dX4_set_73 : decode cX4_set 73 = .ok (.iload_n 2, 1) := by decide +kernel
theorem dX4_set_74 : decode cX4_set 74 = .ok (.iastore, 1) := by decide +kernel
theorem dX4_set_75 : decode cX4_set 75 = .ok (.aload_n 0, 1) := by decide +kernel
theorem dX4_set_76 : decode cX4_set 76 = .ok (.getfield 28, 3) := by decide +kernel
theorem dX4_set_79 : decode cX4_set 79 = .ok (.getfield 53, 3) := by decide +kernel
theorem dX4_set_82 : decode cX4_set 82 = .ok (.aload_n 0, 1) := by decide +kernel
theorem dX4_set_83 : decode cX4_set 83 = .ok (.getfield 38, 3) := by decide +kernel
theorem dX4_set_86 : decode cX4_set 86 = .ok (.iload_n 3, 1) := by decide +kernel
theorem dX4_set_87 : decode cX4_set 87 = .ok (.iastore, 1) := by decide +kernel
theorem dX4_set_88 : decode cX4_set 88 = .ok (.aload_n 0, 1) := by decide +kernel
theorem dX4_set_89 : decode cX4_set 89 = .ok (.dup, 1) := by decide +kernel
theorem dX4_set_90 : decode cX4_set 90 = .ok (.getfield 38, 3) := by decide +kernel
theorem dX4_set_93 : decode cX4_set 93 = .ok (.iconst 1, 1) := by decide +kernel
theorem dX4_set_94 : decode cX4_set 94 = .ok (.iadd, 1) := by decide +kernel
theorem dX4_set_95 : decode cX4_set 95 = .ok (.putfield 38, 3) := by decide +kernel
theorem dX4_set_98 : decode cX4_set 98 = .ok (.aload_n 0, 1) := by decide +kernel
theorem dX4_set_99 : decode cX4_set 99 = .ok (.getfield 38, 3) := by decide +kernel
theorem dX4_set_102 : decode cX4_set 102 = .ok (.iconst 1, 1) := by decide +kernel
theorem dX4_set_103 : decode cX4_set 103 = .ok (.isub, 1) := by decide +kernel
theorem dX4_set_104 : decode cX4_set 104 = .ok (.ireturn, 1) := by decide +kernel
set_option maxRecDepth 20000 in
theorem ggX4_drop_X4_isGlass : GoodIn wsX4_drop wsX4_isGlass := goodIn_r _ [8, 9, 10, 11, 7, 12, 28, 29, 30, 31, 32, 33, 34, 35, 36] (by decide +kernel) (by decide +kernel)
set_option maxRecDepth 20000 in
theorem gX4_drop_X4_isGlass : GoodIn wsX4_drop (wsV RX4 56 RX4 yX4_isGlass wsX4_isGlass) := goodIn_app (goodIn_of _ (by decide +kernel)) ggX4_drop_X4_isGlass
set_option maxRecDepth 20000 in
theorem ggX4_drop_X4_no : GoodIn wsX4_drop wsX4_no := goodIn_r _ [16, 1, 28, 29, 30, 31, 32, 33, 34, 35, 36] (by decide +kernel) (by decide +kernel)
set_option maxRecDepth 20000 in
theorem gX4_drop_X4_no : GoodIn wsX4_drop (wsV RX4 49 RX4 yX4_no wsX4_no) := goodIn_app (goodIn_of _ (by decide +kernel)) ggX4_drop_X4_no
set_option maxRecDepth 20000 in
theorem ggX4_drop_X4_isIn : GoodIn wsX4_drop wsX4_isIn := goodIn_r _ [12] (by decide +kernel) (by decide +kernel)
set_option maxRecDepth 20000 in
theorem gX4_drop_X4_isIn : GoodIn wsX4_drop (va_wsS RX4 41 yX4_isIn wsX4_isIn) := goodIn_app (goodIn_of _ (by decide +kernel)) ggX4_drop_X4_isIn
set_option maxRecDepth 20000 in
theorem ggX4_drop_X3_tone : GoodIn wsX4_drop wsX3_tone := goodIn_r _ [21, 22, 23, 24, 25, 26, 27, 37, 38, 39, 40, 41, 42, 43, 44, 45, 46, 47, 48, 28, 29, 30, 31, 32, 33, 34, 35, 36] (by decide +kernel) (by decide +kernel)
set_option maxRecDepth 20000 in
theorem gX4_drop_X3_tone : GoodIn wsX4_drop (wsV RX4 62 RX3 yX3_tone wsX3_tone) := goodIn_app (goodIn_of _ (by decide +kernel)) ggX4_drop_X3_tone
theorem dX4_drop_0 : decode cX4_drop 0 = .ok (.aload_n 0, 1) := by decide +kernel
theorem dX4_drop_1 : decode cX4_drop 1 = .ok (.iconst 0, 1) := by decide +kernel
theorem dX4_drop_2 : decode cX4_drop 2 = .ok (.putfield 35, 3) := by decide +kernel
theorem dX4_drop_5 : decode cX4_drop 5 = .ok (.aload_n 0, 1) := by decide +kernel
theorem dX4_drop_6 : decode cX4_drop 6 = .ok (.iload_n 1, 1) := by decide +kernel
theorem dX4_drop_7 : decode cX4_drop 7 = .ok (.invokevirtual 56, 3) := by decide +kernel
theorem dX4_drop_10 : decode cX4_drop 10 = .ok (.ifCond .ne 9, 3) := by decide +kernel
theorem dX4_drop_13 : decode cX4_drop 13 = .ok (.aload_n 0, 1) := by decide +kernel
theorem dX4_drop_14 : decode cX4_drop 14 = .ok (.iconst 1, 1) := by decide +kernel
theorem dX4_drop_15 : decode cX4_drop 15 = .ok (.invokevirtual 49, 3) := by decide +kernel
theorem dX4_drop_18 : decode cX4_drop 18 = .ok (.ireturn, 1) := by decide +kernel
theorem dX4_drop_19 : decode cX4_drop 19 = .ok (.iload_n 2, 1) := by decide +kernel
theorem dX4_drop_20 : decode cX4_drop 20 = .ok (.ifCond .eq 16, 3) := by decide +kernel
theorem dX4_drop_23 : decode cX4_drop 23 = .ok (.iload_n 2, 1) := by decide +kernel
theorem dX4_drop_24 : decode cX4_drop 24 = .ok (.sipush (-200), 3) := by decide +kernel
theorem dX4_drop_27 : decode cX4_drop 27 = .ok (.sipush 200, 3) := by decide +kernel
theorem dX4_drop_30 : decode cX4_drop 30 = .ok (.invokestatic 41, 3) := by decide +kernel
theorem dX4_drop_33 : decode cX4_drop 33 = .ok (.ifCond .ne 9, 3) := by decide +kernel
theorem dX4_drop_36 : decode cX4_drop 36 = .ok (.aload_n 0, 1) := by decide +kernel
theorem dX4_drop_37 : decode cX4_drop 37 = .ok (.iconst 2, 1) := by decide +kernel
theorem dX4_drop_38 : decode cX4_drop 38 = .ok (.invokevirtual 49, 3) := by decide +kernel
theorem dX4_drop_41 : decode cX4_drop 41 = .ok (.ireturn, 1) := by decide +kernel
theorem dX4_drop_42 : decode cX4_drop 42 = .ok (.aload_n 0, 1) := by decide +kernel
theorem dX4_drop_43 : decode cX4_drop 43 = .ok (.getfield 28, 3) := by decide +kernel
theorem dX4_drop_46 : decode cX4_drop 46 = .ok (.getfield 53, 3) := by decide +kernel
theorem dX4_drop_49 : decode cX4_drop 49 = .ok (.iload_n 1, 1) := by decide +kernel
theorem dX4_drop_50 : decode cX4_drop 50 = .ok (.iaload, 1) := by decide +kernel
theorem dX4_drop_51 : decode cX4_drop 51 = .ok (.iload_n 2, 1) := by decide +kernel
theorem dX4_drop_52 : decode cX4_drop 52 = .ok (.iadd, 1) := by decide +kernel
theorem dX4_drop_53 : decode cX4_drop 53 = .ok (.istore_n 3, 1) := by decide +kernel
theorem dX4_drop_54 : decode cX4_drop 54 = .ok (.aload_n 0, 1) := by decide +kernel
theorem dX4_drop_55 : decode cX4_drop 55 = .ok (.getfield 28, 3) := by decide +kernel
theorem dX4_drop_58 : decode cX4_drop 58 = .ok (.getfield 59, 3) := by decide +kernel
theorem dX4_drop_61 : decode cX4_drop 61 = .ok (.iload_n 1, 1) := by decide +kernel
theorem dX4_drop_62 : decode cX4_drop 62 = .ok (.iaload, 1) := by decide +kernel
theorem dX4_drop_63 : decode cX4_drop 63 = .ok (.iconst 1, 1) := by decide +kernel
theorem dX4_drop_64 : decode cX4_drop 64 = .ok (.if_icmp .eq 20, 3) := by decide +kernel
theorem dX4_drop_67 : decode cX4_drop 67 = .ok (.iload_n 3, 1) := by decide +kernel
theorem dX4_drop_68 : decode cX4_drop 68 = .ok (.iconst 0, 1) := by decide +kernel
theorem dX4_drop_69 : decode cX4_drop 69 = .ok (.bipush 100, 2) := by decide +kernel
theorem dX4_drop_71 : decode cX4_drop 71 = .ok (.aload_n 0, 1) := by decide +kernel
theorem dX4_drop_72 : decode cX4_drop 72 = .ok (.getfield 20, 3) := by decide +kernel
theorem dX4_drop_75 : decode cX4_drop 75 = .ok (.iload_n 1, 1) := by decide +kernel
theorem dX4_drop_76 : decode cX4_drop 76 = .ok (.iaload, 1) := by decide +kernel
theorem dX4_drop_77 : decode cX4_drop 77 = .ok (.imul, 1) := by decide +kernel
theorem dX4_drop_78 : decode cX4_drop 78 = .ok (.invokestatic 41, 3) := by decide +kernel
theorem dX4_drop_81 : decode cX4_drop 81 = .ok (.ifCond .ne 9, 3) := by decide +kernel
theorem dX4_drop_84 : decode cX4_drop 84 = .ok (.aload_n 0, 1) := by decide +kernel
theorem dX4_drop_85 : decode cX4_drop 85 = .ok (.iconst 3, 1) := by decide +kernel
theorem dX4_drop_86 : decode cX4_drop 86 = .ok (.invokevirtual 49, 3) := by decide +kernel
theorem dX4_drop_89 : decode cX4_drop 89 = .ok (.ireturn, 1) := by decide +kernel
theorem dX4_drop_90 : decode cX4_drop 90 = .ok (.aload_n 0, 1) := by decide +kernel
theorem dX4_drop_91 : decode cX4_drop 91 = .ok (.getfield 28, 3) := by decide +kernel
theorem dX4_drop_94 : decode cX4_drop 94 = .ok (.getfield 53, 3) := by decide +kernel
theorem dX4_drop_97 : decode cX4_drop 97 = .ok (.iload_n 1, 1) := by decide +kernel
theorem dX4_drop_98 : decode cX4_drop 98 = .ok (.iload_n 3, 1) := by decide +kernel
theorem dX4_drop_99 : decode cX4_drop 99 = .ok (.iastore, 1) := by decide +kernel
theorem dX4_drop_100 : decode cX4_drop 100 = .ok (.aload_n 0, 1) := by decide +kernel
theorem dX4_drop_101 : decode cX4_drop 101 = .ok (.getfield 28, 3) := by decide +kernel
theorem dX4_drop_104 : decode cX4_drop 104 = .ok (.iload_n 1, 1) := by decide +kernel
theorem dX4_drop_105 : decode cX4_drop 105 = .ok (.invokevirtual 62, 3) := by decide +kernel
theorem dX4_drop_108 : decode cX4_drop 108 = .ok (.ireturn, 1) := by decide +kernel
set_option maxRecDepth 20000 in
theorem ggX4_pump_X4_isRow : GoodIn wsX4_pump wsX4_isRow := goodIn_r _ [6, 7, 8, 5, 9] (by decide +kernel) (by decide +kernel)
set_option maxRecDepth 20000 in
theorem gX4_pump_X4_isRow : GoodIn wsX4_pump (va_wsS RX4 45 yX4_isRow wsX4_isRow) := goodIn_app (goodIn_of _ (by decide +kernel)) ggX4_pump_X4_isRow
set_option maxRecDepth 20000 in
theorem ggX4_pump_X4_no : GoodIn wsX4_pump wsX4_no := goodIn_r _ [13, 1, 14, 15, 16, 17, 18, 19, 20, 21, 22] (by decide +kernel) (by decide +kernel)
set_option maxRecDepth 20000 in
theorem gX4_pump_X4_no : GoodIn wsX4_pump (wsV RX4 49 RX4 yX4_no wsX4_no) := goodIn_app (goodIn_of _ (by decide +kernel)) ggX4_pump_X4_no
set_option maxRecDepth 20000 in
theorem ggX4_pump_X4_isIn : GoodIn wsX4_pump wsX4_isIn := goodIn_r _ [9] (by decide +kernel) (by decide +kernel)
set_option maxRecDepth 20000 in
theorem gX4_pump_X4_isIn : GoodIn wsX4_pump (va_wsS RX4 41 yX4_isIn wsX4_isIn) := goodIn_app (goodIn_of _ (by decide +kernel)) ggX4_pump_X4_isIn
theorem dX4_pump_0 : decode cX4_pump 0 = .ok (.aload_n 0, 1) := by decide +kernel
theorem dX4_pump_1 : decode cX4_pump 1 = .ok (.iconst 0, 1) := by decide +kernel
theorem dX4_pump_2 : decode cX4_pump 2 = .ok (.putfield 35, 3) := by decide +kernel
theorem dX4_pump_5 : decode cX4_pump 5 = .ok (.iload_n 1, 1) := by decide +kernel
theorem dX4_pump_6 : decode cX4_pump 6 = .ok (.invokestatic 45, 3) := by decide +kernel
theorem dX4_pump_9 : decode cX4_pump 9 = .ok (.ifCond .ne 9, 3) := by decide +kernel
theorem dX4_pump_12 : decode cX4_pump 12 = .ok (.aload_n 0, 1) := by decide +kernel
theorem dX4_pump_13 : decode cX4_pump 13 = .ok (.iconst 1, 1) := by decide +kernel
theorem dX4_pump_14 : decode cX4_pump 14 = .ok (.invokevirtual 49, 3) := by decide +kernel
theorem dX4_pump_17 : decode cX4_pump 17 = .ok (.ireturn, 1) := by decide +kernel
theorem dX4_pump_18 : decode cX4_pump 18 = .ok (.iload_n 2, 1) := by decide +kernel
theorem dX4_pump_19 : decode cX4_pump 19 = .ok (.iconst 0, 1) := by decide +kernel
theorem dX4_pump_20 : decode cX4_pump 20 = .ok (.bipush 9, 2) := by decide +kernel
theorem dX4_pump_22 : decode cX4_pump 22 = .ok (.invokestatic 41, 3) := by decide +kernel
theorem dX4_pump_25 : decode cX4_pump 25 = .ok (.ifCond .ne 9, 3) := by decide +kernel
theorem dX4_pump_28 : decode cX4_pump 28 = .ok (.aload_n 0, 1) := by decide +kernel
theorem dX4_pump_29 : decode cX4_pump 29 = .ok (.iconst 2, 1) := by decide +kernel
theorem dX4_pump_30 : decode cX4_pump 30 = .ok (.invokevirtual 49, 3) := by decide +kernel
theorem dX4_pump_33 : decode cX4_pump 33 = .ok (.ireturn, 1) := by decide +kernel
theorem dX4_pump_34 : decode cX4_pump 34 = .ok (.aload_n 0, 1) := by decide +kernel
theorem dX4_pump_35 : decode cX4_pump 35 = .ok (.getfield 28, 3) := by decide +kernel
theorem dX4_pump_38 : decode cX4_pump 38 = .ok (.getfield 65, 3) := by decide +kernel
theorem dX4_pump_41 : decode cX4_pump 41 = .ok (.iload_n 1, 1) := by decide +kernel
theorem dX4_pump_42 : decode cX4_pump 42 = .ok (.iaload, 1) := by decide +kernel
theorem dX4_pump_43 : decode cX4_pump 43 = .ok (.istore_n 3, 1) := by decide +kernel
theorem dX4_pump_44 : decode cX4_pump 44 = .ok (.aload_n 0, 1) := by decide +kernel
theorem dX4_pump_45 : decode cX4_pump 45 = .ok (.getfield 28, 3) := by decide +kernel
theorem dX4_pump_48 : decode cX4_pump 48 = .ok (.getfield 65, 3) := by decide +kernel
theorem dX4_pump_51 : decode cX4_pump 51 = .ok (.iload_n 1, 1) := by decide +kernel
theorem dX4_pump_52 : decode cX4_pump 52 = .ok (.iload_n 2, 1) := by decide +kernel
theorem dX4_pump_53 : decode cX4_pump 53 = .ok (.iastore, 1) := by decide +kernel
theorem dX4_pump_54 : decode cX4_pump 54 = .ok (.iload_n 3, 1) := by decide +kernel
theorem dX4_pump_55 : decode cX4_pump 55 = .ok (.ireturn, 1) := by decide +kernel
set_option maxRecDepth 20000 in
theorem ggX4_against_X3_isAgainst : GoodIn wsX4_against wsX3_isAgainst := goodIn_r _ [7, 8, 9, 10, 11, 12, 13, 14, 15, 6, 16, 17, 18, 19, 20, 21, 31, 32, 33, 34, 35, 36, 37, 38, 39, 40, 41, 42, 22, 23, 24, 25, 26, 27, 28, 29, 30] (by decide +kernel) (by decide +kernel)
set_option maxRecDepth 20000 in
theorem gX4_against_X3_isAgainst : GoodIn wsX4_against (wsV RX4 68 RX3 yX3_isAgainst wsX3_isAgainst) := goodIn_app (goodIn_of _ (by decide +kernel)) ggX4_against_X3_isAgainst
theorem dX4_against_0 : decode cX4_against 0 = .ok (.iconst 0, 1) := by decide +kernel
theorem dX4_against_1 : decode cX4_against 1 = .ok (.istore_n 2, 1) := by decide +kernel
theorem dX4_against_2 : decode cX4_against 2 = .ok (.iconst 0, 1) := by decide +kernel
theorem dX4_against_3 : decode cX4_against 3 = .ok (.istore_n 3, 1) := by decide +kernel
theorem dX4_against_4 : decode cX4_against 4 = .ok (.iload_n 3, 1) := by decide +kernel
theorem dX4_against_5 : decode cX4_against 5 = .ok (.aload_n 0, 1) := by decide +kernel
theorem dX4_against_6 : decode cX4_against 6 = .ok (.getfield 38, 3) := by decide +kernel
theorem dX4_against_9 : decode cX4_against 9 = .ok (.if_icmp .ge 34, 3) := by decide +kernel
theorem dX4_against_12 : decode cX4_against 12 = .ok (.iload_n 2, 1) := by decide +kernel
theorem dX4_against_13 : decode cX4_against 13 = .ok (.iload_n 3, 1) := by decide +kernel
theorem dX4_against_14 : decode cX4_against 14 = .ok (.iload_n 1, 1) := by decide +kernel
theorem dX4_against_15 : decode cX4_against 15 = .ok (.if_icmp .eq 19, 3) := by decide +kernel
theorem dX4_against_18 : decode cX4_against 18 = .ok (.aload_n 0, 1) := by decide +kernel
theorem dX4_against_19 : decode cX4_against 19 = .ok (.getfield 28, 3) := by decide +kernel
theorem dX4_against_22 : decode cX4_against 22 = .ok (.iload_n 3, 1) := by decide +kernel
theorem dX4_against_23 : decode cX4_against 23 = .ok (.iload_n 1, 1) := by decide +kernel
theorem dX4_against_24 : decode cX4_against 24 = .ok (.invokevirtual 68, 3) := by decide +kernel
theorem dX4_against_27 : decode cX4_against 27 = .ok (.ifCond .eq 7, 3) := by decide +kernel
theorem dX4_against_30 : decode cX4_against 30 = .ok (.iconst 1, 1) := by decide +kernel
theorem dX4_against_31 : decode cX4_against 31 = .ok (.goto 4, 3) := by decide +kernel
theorem dX4_against_34 : decode cX4_against 34 = .ok (.iconst 0, 1) := by decide +kernel
theorem dX4_against_35 : decode cX4_against 35 = .ok (.iadd, 1) := by decide +kernel
theorem dX4_against_36 : decode cX4_against 36 = .ok (.istore_n 2, 1) := by decide +kernel
theorem dX4_against_37 : decode cX4_against 37 = .ok (.iinc 3 1, 3) := by decide +kernel
theorem dX4_against_40 : decode cX4_against 40 = .ok (.goto (-36), 3) := by decide +kernel
theorem dX4_against_43 : decode cX4_against 43 = .ok (.iload_n 2, 1) := by decide +kernel
theorem dX4_against_44 : decode cX4_against 44 = .ok (.ireturn, 1) := by decide +kernel
set_option maxRecDepth 20000 in
theorem ggX4_glassTold_X3_tone : GoodIn wsX4_glassTold wsX3_tone := goodIn_r _ [9, 10, 11, 12, 13, 14, 15, 40, 41, 42, 43, 44, 45, 46, 47, 48, 49, 50, 51, 31, 32, 33, 34, 35, 36, 37, 38, 39] (by decide +kernel) (by decide +kernel)
set_option maxRecDepth 20000 in
theorem gX4_glassTold_X3_tone : GoodIn wsX4_glassTold (wsV RX4 62 RX3 yX3_tone wsX3_tone) := goodIn_app (goodIn_of _ (by decide +kernel)) ggX4_glassTold_X3_tone
set_option maxRecDepth 20000 in
theorem ggX4_glassTold_X4_against : GoodIn wsX4_glassTold wsX4_against := goodIn_r _ [20, 21, 4, 22, 23, 24, 8, 25, 26, 27, 14, 28, 29, 30, 6, 7, 9, 10, 11, 12, 13, 15, 31, 32, 33, 34, 35, 36, 37, 38, 39, 40, 41, 42, 43, 44, 45, 46, 47, 48, 49, 50, 51] (by decide +kernel) (by decide +kernel)
set_option maxRecDepth 20000 in
theorem gX4_glassTold_X4_against : GoodIn wsX4_glassTold (wsV RX4 78 RX4 yX4_against wsX4_against) := goodIn_app (goodIn_of _ (by decide +kernel)) ggX4_glassTold_X4_against
theorem dX4_glassTold_0 : decode cX4_glassTold 0 = .ok (.bipush 8, 2) := by decide +kernel
theorem dX4_glassTold_2 : decode cX4_glassTold 2 = .ok (.newarray .int, 2) := by decide +kernel
theorem dX4_glassTold_4 : decode cX4_glassTold 4 = .ok (.dup, 1) := by decide +kernel
theorem dX4_glassTold_5 : decode cX4_glassTold 5 = .ok (.iconst 0, 1) := by decide +kernel
theorem dX4_glassTold_6 : decode cX4_glassTold 6 = .ok (.aload_n 0, 1) := by decide +kernel
theorem dX4_glassTold_7 : decode cX4_glassTold 7 = .ok (.getfield 17, 3) := by decide +kernel
theorem dX4_glassTold_10 : decode cX4_glassTold 10 = .ok (.iload_n 1, 1) := by decide +kernel
theorem dX4_glassTold_11 : decode cX4_glassTold 11 = .ok (.iaload, 1) := by decide +kernel
theorem dX4_glassTold_12 : decode cX4_glassTold 12 = .ok (.iastore, 1) := by decide +kernel
theorem dX4_glassTold_13 : decode cX4_glassTold 13 = .ok (.dup, 1) := by decide +kernel
theorem dX4_glassTold_14 : decode cX4_glassTold 14 = .ok (.iconst 1, 1) := by decide +kernel
theorem dX4_glassTold_15 : decode cX4_glassTold 15 = .ok (.aload_n 0, 1) := by decide +kernel
theorem dX4_glassTold_16 : decode cX4_glassTold 16 = .ok (.getfield 20, 3) := by decide +kernel
theorem dX4_glassTold_19 : decode cX4_glassTold 19 = .ok (.iload_n 1, 1) := by decide +kernel
theorem dX4_glassTold_20 : decode cX4_glassTold 20 = .ok (.iaload, 1) := by decide +kernel
theorem dX4_glassTold_21 : decode cX4_glassTold 21 = .ok (.iastore, 1) := by decide +kernel
theorem dX4_glassTold_22 : decode cX4_glassTold 22 = .ok (.dup, 1) := by decide +kernel
theorem dX4_glassTold_23 : decode cX4_glassTold 23 = .ok (.iconst 2, 1) := by decide +kernel
theorem dX4_glassTold_24 : decode cX4_glassTold 24 = .ok (.aload_n 0, 1) := by decide +kernel
theorem dX4_glassTold_25 : decode cX4_glassTold 25 = .ok (.getfield 28, 3) := by decide +kernel
theorem dX4_glassTold_28 : decode cX4_glassTold 28 = .ok (.getfield 53, 3) := by decide +kernel
theorem dX4_glassTold_31 : decode cX4_glassTold 31 = .ok (.iload_n 1, 1) := by decide +kernel
theorem dX4_glassTold_32 : decode cX4_glassTold 32 = .ok (.iaload, 1) := by decide +kernel
theorem dX4_glassTold_33 : decode cX4_glassTold 33 = .ok (.iastore, 1) := by decide +kernel
theorem dX4_glassTold_34 : decode cX4_glassTold 34 = .ok (.dup, 1) := by decide +kernel
theorem dX4_glassTold_35 : decode cX4_glassTold 35 = .ok (.iconst 3, 1) := by decide +kernel
theorem dX4_glassTold_36 : decode cX4_glassTold 36 = .ok (.aload_n 0, 1) := by decide +kernel
theorem dX4_glassTold_37 : decode cX4_glassTold 37 = .ok (.getfield 28, 3) := by decide +kernel
theorem dX4_glassTold_40 : decode cX4_glassTold 40 = .ok (.iload_n 1, 1) := by decide +kernel
theorem dX4_glassTold_41 : decode cX4_glassTold 41 = .ok (.invokevirtual 62, 3) := by decide +kernel
theorem dX4_glassTold_44 : decode cX4_glassTold 44 = .ok (.iastore, 1) := by decide +kernel
theorem dX4_glassTold_45 : decode cX4_glassTold 45 = .ok (.dup, 1) := by decide +kernel
theorem dX4_glassTold_46 : decode cX4_glassTold 46 = .ok (.iconst 4, 1) := by decide +kernel
theorem dX4_glassTold_47 : decode cX4_glassTold 47 = .ok (.aload_n 0, 1) := by decide +kernel
theorem dX4_glassTold_48 : decode cX4_glassTold 48 = .ok (.getfield 28, 3) := by decide +kernel
theorem dX4_glassTold_51 : decode cX4_glassTold 51 = .ok (.getfield 59, 3) := by decide +kernel
theorem dX4_glassTold_54 : decode cX4_glassTold 54 = .ok (.iload_n 1, 1) := by decide +kernel
theorem dX4_glassTold_55 : decode cX4_glassTold 55 = .ok (.iaload, 1) := by decide +kernel
theorem dX4_glassTold_56 : decode cX4_glassTold 56 = .ok (.iastore, 1) := by decide +kernel
theorem dX4_glassTold_57 : decode cX4_glassTold 57 = .ok (.dup, 1) := by decide +kernel
theorem dX4_glassTold_58 : decode cX4_glassTold 58 = .ok (.iconst 5, 1) := by decide +kernel
theorem dX4_glassTold_59 : decode cX4_glassTold 59 = .ok (.aload_n 0, 1) := by decide +kernel
theorem dX4_glassTold_60 : decode cX4_glassTold 60 = .ok (.getfield 28, 3) := by decide +kernel
theorem dX4_glassTold_63 : decode cX4_glassTold 63 = .ok (.getfield 72, 3) := by decide +kernel
theorem dX4_glassTold_66 : decode cX4_glassTold 66 = .ok (.iload_n 1, 1) := by decide +kernel
theorem dX4_glassTold_67 : decode cX4_glassTold 67 = .ok (.iaload, 1) := by decide +kernel
theorem dX4_glassTold_68 : decode cX4_glassTold 68 = .ok (.iastore, 1) := by decide +kernel
theorem dX4_glassTold_69 : decode cX4_glassTold 69 = .ok (.dup, 1) := by decide +kernel
theorem dX4_glassTold_70 : decode cX4_glassTold 70 = .ok (.bipush 6, 2) := by decide +kernel
theorem dX4_glassTold_72 : decode cX4_glassTold 72 = .ok (.aload_n 0, 1) := by decide +kernel
theorem dX4_glassTold_73 : decode cX4_glassTold 73 = .ok (.getfield 28, 3) := by decide +kernel
theorem dX4_glassTold_76 : decode cX4_glassTold 76 = .ok (.getfield 75, 3) := by decide +kernel
theorem dX4_glassTold_79 : decode cX4_glassTold 79 = .ok (.iload_n 1, 1) := by decide +kernel
theorem dX4_glassTold_80 : decode cX4_glassTold 80 = .ok (.iaload, 1) := by decide +kernel
theorem dX4_glassTold_81 : decode cX4_glassTold 81 = .ok (.iastore, 1) := by decide +kernel
theorem dX4_glassTold_82 : decode cX4_glassTold 82 = .ok (.dup, 1) := by decide +kernel
theorem dX4_glassTold_83 : decode cX4_glassTold 83 = .ok (.bipush 7, 2) := by decide +kernel
theorem dX4_glassTold_85 : decode cX4_glassTold 85 = .ok (.aload_n 0, 1) := by decide +kernel
theorem dX4_glassTold_86 : decode cX4_glassTold 86 = .ok (.iload_n 1, 1) := by decide +kernel
theorem dX4_glassTold_87 : decode cX4_glassTold 87 = .ok (.invokevirtual 78, 3) := by decide +kernel
theorem dX4_glassTold_90 : decode cX4_glassTold 90 = .ok (.iastore, 1) := by decide +kernel
theorem dX4_glassTold_91 : decode cX4_glassTold 91 = .ok (.astore_n 3, 1) := by decide +kernel
theorem dX4_glassTold_92 : decode cX4_glassTold 92 = .ok (.aload_n 3, 1) := by decide +kernel
theorem dX4_glassTold_93 : decode cX4_glassTold 93 = .ok (.iload_n 2, 1) := by decide +kernel
theorem dX4_glassTold_94 : decode cX4_glassTold 94 = .ok (.iaload, 1) := by decide +kernel
theorem dX4_glassTold_95 : decode cX4_glassTold 95 = .ok (.ireturn, 1) := by decide +kernel
set_option maxRecDepth 20000 in
theorem ggX4_glass_X4_isGlass : GoodIn wsX4_glass wsX4_isGlass := goodIn_r _ [6, 7, 8, 9, 5, 10, 47, 48, 49, 50, 51, 52, 53, 54, 55] (by decide +kernel) (by decide +kernel)
set_option maxRecDepth 20000 in
theorem gX4_glass_X4_isGlass : GoodIn wsX4_glass (wsV RX4 56 RX4 yX4_isGlass wsX4_isGlass) := goodIn_app (goodIn_of _ (by decide +kernel)) ggX4_glass_X4_isGlass
set_option maxRecDepth 20000 in
theorem ggX4_glass_X4_isIn : GoodIn wsX4_glass wsX4_isIn := goodIn_r _ [10] (by decide +kernel) (by decide +kernel)
set_option maxRecDepth 20000 in
theorem gX4_glass_X4_isIn : GoodIn wsX4_glass (va_wsS RX4 41 yX4_isIn wsX4_isIn) := goodIn_app (goodIn_of _ (by decide +kernel)) ggX4_glass_X4_isIn
set_option maxRecDepth 20000 in
theorem ggX4_glass_X4_glassTold : GoodIn wsX4_glass wsX4_glassTold := goodIn_r _ [14, 15, 16, 17, 18, 19, 20, 21, 22, 23, 24, 25, 26, 27, 28, 29, 30, 31, 32, 5, 33, 7, 34, 35, 36, 37, 38, 39, 40, 41, 42, 47, 48, 49, 50, 51, 52, 53, 54, 55, 56, 57, 58, 59, 60, 61, 62, 63, 64, 65, 66, 67] (by decide +kernel) (by decide +kernel)
set_option maxRecDepth 20000 in
theorem gX4_glass_X4_glassTold : GoodIn wsX4_glass (wsV RX4 81 RX4 yX4_glassTold wsX4_glassTold) := goodIn_app (goodIn_of _ (by decide +kernel)) ggX4_glass_X4_glassTold
set_option maxRecDepth 20000 in
theorem ggX4_glass_X4_no : GoodIn wsX4_glass wsX4_no := goodIn_r _ [46, 1, 47, 48, 49, 50, 51, 52, 53, 54, 55] (by decide +kernel) (by decide +kernel)
set_option maxRecDepth 20000 in
theorem gX4_glass_X4_no : GoodIn wsX4_glass (wsV RX4 49 RX4 yX4_no wsX4_no) := goodIn_app (goodIn_of _ (by decide +kernel)) ggX4_glass_X4_no
theorem dX4_glass_0 : decode cX4_glass 0 = .ok (.aload_n 0, 1) := by decide +kernel
theorem dX4_glass_1 : decode cX4_glass 1 = .ok (.iconst 0, 1) := by decide +kernel
theorem dX4_glass_2 : decode cX4_glass 2 = .ok (.putfield 35, 3) := by decide +kernel
theorem dX4_glass_5 : decode cX4_glass 5 = .ok (.aload_n 0, 1) := by decide +kernel
theorem dX4_glass_6 : decode cX4_glass 6 = .ok (.iload_n 1, 1) := by decide +kernel
theorem dX4_glass_7 : decode cX4_glass 7 = .ok (.invokevirtual 56, 3) := by decide +kernel
theorem dX4_glass_10 : decode cX4_glass 10 = .ok (.ifCond .eq 22, 3) := by decide +kernel
theorem dX4_glass_13 : decode cX4_glass 13 = .ok (.iload_n 2, 1) := by decide +kernel
theorem dX4_glass_14 : decode cX4_glass 14 = .ok (.iconst 0, 1) := by decide +kernel
theorem dX4_glass_15 : decode cX4_glass 15 = .ok (.bipush 7, 2) := by decide +kernel
theorem dX4_glass_17 : decode cX4_glass 17 = .ok (.invokestatic 41, 3) := by decide +kernel
theorem dX4_glass_20 : decode cX4_glass 20 = .ok (.ifCond .eq 12, 3) := by decide +kernel
theorem dX4_glass_23 : decode cX4_glass 23 = .ok (.aload_n 0, 1) := by decide +kernel
theorem dX4_glass_24 : decode cX4_glass 24 = .ok (.iload_n 1, 1) := by decide +kernel
theorem dX4_glass_25 : decode cX4_glass 25 = .ok (.iload_n 2, 1) := by decide +kernel
theorem dX4_glass_26 : decode cX4_glass 26 = .ok (.invokevirtual 81, 3) := by decide +kernel
theorem dX4_glass_29 : decode cX4_glass 29 = .ok (.goto 8, 3) := by decide +kernel
theorem dX4_glass_32 : decode cX4_glass 32 = .ok (.aload_n 0, 1) := by decide +kernel
theorem dX4_glass_33 : decode cX4_glass 33 = .ok (.iconst 1, 1) := by decide +kernel
theorem dX4_glass_34 : decode cX4_glass 34 = .ok (.invokevirtual 49, 3) := by decide +kernel
theorem dX4_glass_37 : decode cX4_glass 37 = .ok (.ireturn, 1) := by decide +kernel
theorem dX4_rowTold_0 : decode cX4_rowTold 0 = .ok (.iconst 0, 1) := by decide +kernel
theorem dX4_rowTold_1 : decode cX4_rowTold 1 = .ok (.istore_n 3, 1) := by decide +kernel
theorem dX4_rowTold_2 : decode cX4_rowTold 2 = .ok (.iconst 0, 1) := by decide +kernel
theorem dX4_rowTold_3 : decode cX4_rowTold 3 = .ok (.istore 4, 2) := by decide +kernel
theorem dX4_rowTold_5 : decode cX4_rowTold 5 = .ok (.iload 4, 2) := by decide +kernel
theorem dX4_rowTold_7 : decode cX4_rowTold 7 = .ok (.aload_n 0, 1) := by decide +kernel
theorem dX4_rowTold_8 : decode cX4_rowTold 8 = .ok (.getfield 38, 3) := by decide +kernel
theorem dX4_rowTold_11 : decode cX4_rowTold 11 = .ok (.if_icmp .ge 28, 3) := by decide +kernel
theorem dX4_rowTold_14 : decode cX4_rowTold 14 = .ok (.iload_n 3, 1) := by decide +kernel
theorem dX4_rowTold_15 : decode cX4_rowTold 15 = .ok (.aload_n 0, 1) := by decide +kernel
theorem dX4_rowTold_16 : decode cX4_rowTold 16 = .ok (.getfield 17, 3) := by decide +kernel
theorem dX4_rowTold_19 : decode cX4_rowTold 19 = .ok (.iload 4, 2) := by decide +kernel
theorem dX4_rowTold_21 : decode cX4_rowTold 21 = .ok (.iaload, 1) := by decide +kernel
theorem dX4_rowTold_22 : decode cX4_rowTold 22 = .ok (.iload_n 1, 1) := by decide +kernel
theorem dX4_rowTold_23 : decode cX4_rowTold 23 = .ok (.if_icmp .ne 7, 3) := by decide +kernel
theorem dX4_rowTold_26 : decode cX4_rowTold 26 = .ok (.iconst 1, 1) := by decide +kernel
theorem dX4_rowTold_27 : decode cX4_rowTold 27 = .ok (.goto 4, 3) := by decide +kernel
theorem dX4_rowTold_30 : decode cX4_rowTold 30 = .ok (.iconst 0, 1) := by decide +kernel
theorem dX4_rowTold_31 : decode cX4_rowTold 31 = .ok (.iadd, 1) := by decide +kernel
theorem dX4_rowTold_32 : decode cX4_rowTold 32 = .ok (.istore_n 3, 1) := by decide +kernel
theorem dX4_rowTold_33 : decode cX4_rowTold 33 = .ok (.iinc 4 1, 3) := by decide +kernel
theorem dX4_rowTold_36 : decode cX4_rowTold 36 = .ok (.goto (-31), 3) := by decide +kernel
theorem dX4_rowTold_39 : decode cX4_rowTold 39 = .ok (.iload_n 2, 1) := by decide +kernel
theorem dX4_rowTold_40 : decode cX4_rowTold 40 = .ok (.ifCond .ne 15, 3) := by decide +kernel
theorem dX4_rowTold_43 : decode cX4_rowTold 43 = .ok (.aload_n 0, 1) := by decide +kernel
theorem dX4_rowTold_44 : decode cX4_rowTold 44 = .ok (.getfield 28, 3) := by decide +kernel
theorem dX4_rowTold_47 : decode cX4_rowTold 47 = .ok (.getfield 85, 3) := by decide +kernel
theorem dX4_rowTold_50 : decode cX4_rowTold 50 = .ok (.iload_n 1, 1) := by decide +kernel
theorem dX4_rowTold_51 : decode cX4_rowTold 51 = .ok (.iaload, 1) := by decide +kernel
theorem dX4_rowTold_52 : decode cX4_rowTold 52 = .ok (.goto 21, 3) := by decide +kernel
theorem dX4_rowTold_55 : decode cX4_rowTold 55 = .ok (.iload_n 2, 1) := by decide +kernel
theorem dX4_rowTold_56 : decode cX4_rowTold 56 = .ok (.iconst 1, 1) := by decide +kernel
theorem dX4_rowTold_57 : decode cX4_rowTold 57 = .ok (.if_icmp .ne 15, 3) := by decide +kernel
theorem dX4_rowTold_60 : decode cX4_rowTold 60 = .ok (.aload_n 0, 1) := by decide +kernel
theorem dX4_rowTold_61 : decode cX4_rowTold 61 = .ok (.getfield 28, 3) := by decide +kernel
theorem dX4_rowTold_64 : decode cX4_rowTold 64 = .ok (.getfield 65, 3) := by decide +kernel
theorem dX4_rowTold_67 : decode cX4_rowTold 67 = .ok (.iload_n 1, 1) := by decide +kernel
theorem dX4_rowTold_68 : decode cX4_rowTold 68 = .ok (.iaload, 1) := by decide +kernel
theorem dX4_rowTold_69 : decode cX4_rowTold 69 = .ok (.goto 4, 3) := by decide +kernel
theorem dX4_rowTold_72 : decode cX4_rowTold 72 = .ok (.iload_n 3, 1) := by decide +kernel
theorem dX4_rowTold_73 : decode cX4_rowTold 73 = .ok (.ireturn, 1) := by decide +kernel
set_option maxRecDepth 20000 in
theorem ggX4_row_X4_isRow : GoodIn wsX4_row wsX4_isRow := goodIn_r _ [5, 6, 7, 4, 8] (by decide +kernel) (by decide +kernel)
set_option maxRecDepth 20000 in
theorem gX4_row_X4_isRow : GoodIn wsX4_row (va_wsS RX4 45 yX4_isRow wsX4_isRow) := goodIn_app (goodIn_of _ (by decide +kernel)) ggX4_row_X4_isRow
set_option maxRecDepth 20000 in
theorem ggX4_row_X4_isIn : GoodIn wsX4_row wsX4_isIn := goodIn_r _ [8] (by decide +kernel) (by decide +kernel)
set_option maxRecDepth 20000 in
theorem gX4_row_X4_isIn : GoodIn wsX4_row (va_wsS RX4 41 yX4_isIn wsX4_isIn) := goodIn_app (goodIn_of _ (by decide +kernel)) ggX4_row_X4_isIn
set_option maxRecDepth 20000 in
theorem ggX4_row_X4_rowTold : GoodIn wsX4_row wsX4_rowTold := goodIn_r _ [12, 13, 14, 15, 20, 21, 22, 23, 24, 25, 26, 27, 28, 29, 30, 31, 32, 33, 34, 35, 36, 37, 38, 39, 40] (by decide +kernel) (by decide +kernel)
set_option maxRecDepth 20000 in
theorem gX4_row_X4_rowTold : GoodIn wsX4_row (wsV RX4 88 RX4 yX4_rowTold wsX4_rowTold) := goodIn_app (goodIn_of _ (by decide +kernel)) ggX4_row_X4_rowTold
set_option maxRecDepth 20000 in
theorem ggX4_row_X4_no : GoodIn wsX4_row wsX4_no := goodIn_r _ [19, 1, 20, 21, 22, 23, 24, 25, 26, 27, 28] (by decide +kernel) (by decide +kernel)
set_option maxRecDepth 20000 in
theorem gX4_row_X4_no : GoodIn wsX4_row (wsV RX4 49 RX4 yX4_no wsX4_no) := goodIn_app (goodIn_of _ (by decide +kernel)) ggX4_row_X4_no
theorem dX4_row_0 : decode cX4_row 0 = .ok (.aload_n 0, 1) := by decide +kernel
theorem dX4_row_1 : decode cX4_row 1 = .ok (.iconst 0, 1) := by decide +kernel
theorem dX4_row_2 : decode cX4_row 2 = .ok (.putfield 35, 3) := by decide +kernel
theorem dX4_row_5 : decode cX4_row 5 = .ok (.iload_n 1, 1) := by decide +kernel
theorem dX4_row_6 : decode cX4_row 6 = .ok (.invokestatic 45, 3) := by decide +kernel
theorem dX4_row_9 : decode cX4_row 9 = .ok (.ifCond .eq 21, 3) := by decide +kernel
theorem dX4_row_12 : decode cX4_row 12 = .ok (.iload_n 2, 1) := by decide +kernel
theorem dX4_row_13 : decode cX4_row 13 = .ok (.iconst 0, 1) := by decide +kernel
theorem dX4_row_14 : decode cX4_row 14 = .ok (.iconst 2, 1) := by decide +kernel
theorem dX4_row_15 : decode cX4_row 15 = .ok (.invokestatic 41, 3) := by decide +kernel
theorem dX4_row_18 : decode cX4_row 18 = .ok (.ifCond .eq 12, 3) := by decide +kernel
theorem dX4_row_21 : decode cX4_row 21 = .ok (.aload_n 0, 1) := by decide +kernel
theorem dX4_row_22 : decode cX4_row 22 = .ok (.iload_n 1, 1) := by decide +kernel
theorem dX4_row_23 : decode cX4_row 23 = .ok (.iload_n 2, 1) := by decide +kernel
theorem dX4_row_24 : decode cX4_row 24 = .ok (.invokevirtual 88, 3) := by decide +kernel
theorem dX4_row_27 : decode cX4_row 27 = .ok (.goto 8, 3) := by decide +kernel
theorem dX4_row_30 : decode cX4_row 30 = .ok (.aload_n 0, 1) := by decide +kernel
theorem dX4_row_31 : decode cX4_row 31 = .ok (.iconst 1, 1) := by decide +kernel
theorem dX4_row_32 : decode cX4_row 32 = .ok (.invokevirtual 49, 3) := by decide +kernel
theorem dX4_row_35 : decode cX4_row 35 = .ok (.ireturn, 1) := by decide +kernel
set_option maxRecDepth 20000 in
theorem ggX4_setLength_X4_isIn : GoodIn wsX4_setLength wsX4_isIn := goodIn_r _ [6] (by decide +kernel) (by decide +kernel)
set_option maxRecDepth 20000 in
theorem gX4_setLength_X4_isIn : GoodIn wsX4_setLength (va_wsS RX4 41 yX4_isIn wsX4_isIn) := goodIn_app (goodIn_of _ (by decide +kernel)) ggX4_setLength_X4_isIn
set_option maxRecDepth 20000 in
theorem ggX4_setLength_X4_no : GoodIn wsX4_setLength wsX4_no := goodIn_r _ [10, 1, 11, 12, 13, 14, 15, 16, 17, 18, 19] (by decide +kernel) (by decide +kernel)
set_option maxRecDepth 20000 in
theorem gX4_setLength_X4_no : GoodIn wsX4_setLength (wsV RX4 49 RX4 yX4_no wsX4_no) := goodIn_app (goodIn_of _ (by decide +kernel)) ggX4_setLength_X4_no
theorem dX4_setLength_0 : decode cX4_setLength 0 = .ok (.aload_n 0, 1) := by decide +kernel
theorem dX4_setLength_1 : decode cX4_setLength 1 = .ok (.iconst 0, 1) := by decide +kernel
theorem dX4_setLength_2 : decode cX4_setLength 2 = .ok (.putfield 35, 3) := by decide +kernel
theorem dX4_setLength_5 : decode cX4_setLength 5 = .ok (.iload_n 1, 1) := by decide +kernel
theorem dX4_setLength_6 : decode cX4_setLength 6 = .ok (.iconst 1, 1) := by decide +kernel
theorem dX4_setLength_7 : decode cX4_setLength 7 = .ok (.bipush 64, 2) := by decide +kernel
theorem dX4_setLength_9 : decode cX4_setLength 9 = .ok (.invokestatic 41, 3) := by decide +kernel
theorem dX4_setLength_12 : decode cX4_setLength 12 = .ok (.ifCond .ne 9, 3) := by decide +kernel
theorem dX4_setLength_15 : decode cX4_setLength 15 = .ok (.aload_n 0, 1) := by decide +kernel
theorem dX4_setLength_16 : decode cX4_setLength 16 = .ok (.iconst 1, 1) := by decide +kernel
theorem dX4_setLength_17 : decode cX4_setLength 17 = .ok (.invokevirtual 49, 3) := by decide +kernel
theorem dX4_setLength_20 : decode cX4_setLength 20 = .ok (.ireturn, 1) := by decide +kernel
theorem dX4_setLength_21 : decode cX4_setLength 21 = .ok (.aload_n 0, 1) := by decide +kernel
theorem dX4_setLength_22 : decode cX4_setLength 22 = .ok (.getfield 7, 3) := by decide +kernel
theorem dX4_setLength_25 : decode cX4_setLength 25 = .ok (.istore_n 2, 1) := by decide +kernel
theorem dX4_setLength_26 : decode cX4_setLength 26 = .ok (.aload_n 0, 1) := by decide +kernel
theorem dX4_setLength_27 : decode cX4_setLength 27 = .ok (.iload_n 1, 1) := by decide +kernel
theorem dX4_setLength_28 : decode cX4_setLength 28 = .ok (.putfield 7, 3) := by decide +kernel
theorem dX4_setLength_31 : decode cX4_setLength 31 = .ok (.iload_n 2, 1) := by decide +kernel
theorem dX4_setLength_32 : decode cX4_setLength 32 = .ok (.ireturn, 1) := by decide +kernel
set_option maxRecDepth 20000 in
theorem ggX4_note_X4_isIn : GoodIn wsX4_note wsX4_isIn := goodIn_r _ [12] (by decide +kernel) (by decide +kernel)
set_option maxRecDepth 20000 in
theorem gX4_note_X4_isIn : GoodIn wsX4_note (va_wsS RX4 41 yX4_isIn wsX4_isIn) := goodIn_app (goodIn_of _ (by decide +kernel)) ggX4_note_X4_isIn
set_option maxRecDepth 20000 in
theorem ggX4_note_X4_no : GoodIn wsX4_note wsX4_no := goodIn_r _ [16, 1, 17, 18, 19, 20, 21, 22, 23, 24, 25] (by decide +kernel) (by decide +kernel)
set_option maxRecDepth 20000 in
theorem gX4_note_X4_no : GoodIn wsX4_note (wsV RX4 49 RX4 yX4_no wsX4_no) := goodIn_app (goodIn_of _ (by decide +kernel)) ggX4_note_X4_no
theorem dX4_note_0 : decode cX4_note 0 = .ok (.aload_n 0, 1) := by decide +kernel
theorem dX4_note_1 : decode cX4_note 1 = .ok (.iconst 0, 1) := by decide +kernel
theorem dX4_note_2 : decode cX4_note 2 = .ok (.putfield 35, 3) := by decide +kernel
theorem dX4_note_5 : decode cX4_note 5 = .ok (.iload_n 1, 1) := by decide +kernel
theorem dX4_note_6 : decode cX4_note 6 = .ok (.iconst 0, 1) := by decide +kernel
theorem dX4_note_7 : decode cX4_note 7 = .ok (.bipush 63, 2) := by decide +kernel
theorem dX4_note_9 : decode cX4_note 9 = .ok (.invokestatic 41, 3) := by decide +kernel
theorem dX4_note_12 : decode cX4_note 12 = .ok (.ifCond .eq 23, 3) := by decide +kernel
theorem dX4_note_15 : decode cX4_note 15 = .ok (.iload_n 2, 1) := by decide +kernel
theorem dX4_note_16 : decode cX4_note 16 = .ok (.iconst 0, 1) := by decide +kernel
theorem dX4_note_17 : decode cX4_note 17 = .ok (.bipush 120, 2) := by decide +kernel
theorem dX4_note_19 : decode cX4_note 19 = .ok (.invokestatic 41, 3) := by decide +kernel
theorem dX4_note_22 : decode cX4_note 22 = .ok (.ifCond .eq 13, 3) := by decide +kernel
theorem dX4_note_25 : decode cX4_note 25 = .ok (.iload_n 3, 1) := by decide +kernel
theorem dX4_note_26 : decode cX4_note 26 = .ok (.iconst 1, 1) := by decide +kernel
theorem dX4_note_27 : decode cX4_note 27 = .ok (.bipush 9, 2) := by decide +kernel
theorem dX4_note_29 : decode cX4_note 29 = .ok (.invokestatic 41, 3) := by decide +kernel
theorem dX4_note_32 : decode cX4_note 32 = .ok (.ifCond .ne 9, 3) := by decide +kernel
theorem dX4_note_35 : decode cX4_note 35 = .ok (.aload_n 0, 1) := by decide +kernel
theorem dX4_note_36 : decode cX4_note 36 = .ok (.iconst 1, 1) := by decide +kernel
theorem dX4_note_37 : decode cX4_note 37 = .ok (.invokevirtual 49, 3) := by decide +kernel
theorem dX4_note_40 : decode cX4_note 40 = .ok (.ireturn, 1) := by decide +kernel
theorem dX4_note_41 : decode cX4_note 41 = .ok (.aload_n 0, 1) := by decide +kernel
theorem dX4_note_42 : decode cX4_note 42 = .ok (.getfield 91, 3) := by decide +kernel
theorem dX4_note_45 : decode cX4_note 45 = .ok (.bipush 32, 2) := by decide +kernel
theorem dX4_note_47 : decode cX4_note 47 = .ok (.if_icmp .ne 9, 3) := by decide +kernel
theorem dX4_note_50 : decode cX4_note 50 = .ok (.aload_n 0, 1) := by decide +kernel
theorem dX4_note_51 : decode cX4_note 51 = .ok (.iconst 2, 1) := by decide +kernel
theorem dX4_note_52 : decode cX4_note 52 = .ok (.invokevirtual 49, 3) := by decide +kernel
theorem dX4_note_55 : decode cX4_note 55 = .ok (.ireturn, 1) := by decide +kernel
theorem dX4_note_56 : decode cX4_note 56 = .ok (.iconst 3, 1) := by decide +kernel
theorem dX4_note_57 : decode cX4_note 57 = .ok (.newarray .int, 2) := by decide +kernel
theorem dX4_note_59 : decode cX4_note 59 = .ok (.dup, 1) := by decide +kernel
theorem dX4_note_60 : decode cX4_note 60 = .ok (.iconst 0, 1) := by decide +kernel
theorem dX4_note_61 : decode cX4_note 61 = .ok (.iload_n 1, 1) := by decide +kernel
theorem dX4_note_62 : decode cX4_note 62 = .ok (.iastore, 1) := by decide +kernel
theorem dX4_note_63 : decode cX4_note 63 = .ok (.dup, 1) := by decide +kernel
theorem dX4_note_64 : decode cX4_note 64 = .ok (.iconst 1, 1) := by decide +kernel
theorem dX4_note_65 : decode cX4_note 65 = .ok (.iload_n 2, 1) := by decide +kernel
theorem dX4_note_66 : decode cX4_note 66 = .ok (.iastore, 1) := by decide +kernel
theorem dX4_note_67 : decode cX4_note 67 = .ok (.dup, 1) := by decide +kernel
theorem dX4_note_68 : decode cX4_note 68 = .ok (.iconst 2, 1) := by decide +kernel
theorem dX4_note_69 : decode cX4_note 69 = .ok (.iload_n 3, 1) := by decide +kernel
theorem dX4_note_70 : decode cX4_note 70 = .ok (.iastore, 1) := by decide +kernel
theorem dX4_note_71 : decode cX4_note 71 = .ok (.astore 4, 2) := by decide +kernel
theorem dX4_note_73 : decode cX4_note 73 = .ok (.aload 4, 2) := by decide +kernel
theorem dX4_note_75 : decode cX4_note 75 = .ok (.iconst 0, 1) := by decide +kernel
theorem dX4_note_76 : decode cX4_note 76 = .ok (.aload_n 0, 1) := by decide +kernel
theorem dX4_note_77 : decode cX4_note 77 = .ok (.getfield 13, 3) := by decide +kernel
theorem dX4_note_80 : decode cX4_note 80 = .ok (.iconst 3, 1) := by decide +kernel
theorem dX4_note_81 : decode cX4_note 81 = .ok (.aload_n 0, 1) := by decide +kernel
theorem dX4_note_82 : decode cX4_note 82 = .ok (.getfield 91, 3) := by decide +kernel
theorem dX4_note_85 : decode cX4_note 85 = .ok (.imul, 1) := by decide +kernel
theorem dX4_note_86 : decode cX4_note 86 = .ok (.iconst 3, 1) := by decide +kernel
theorem dX4_note_87 : decode cX4_note 87 = .ok (.invokestatic 94, 3) := by decide +kernel
theorem dX4_note_90 : decode cX4_note 90 = .ok (.aload_n 0, 1) := by decide +kernel
theorem dX4_note_91 : decode cX4_note 91 = .ok (.dup, 1) := by decide +kernel
theorem dX4_note_92 : decode cX4_note 92 = .ok (.getfield 91, 3) := by decide +kernel
theorem dX4_note_95 : decode cX4_note 95 = .ok (.iconst 1, 1) := by decide +kernel
theorem dX4_note_96 : decode cX4_note 96 = .ok (.iadd, 1) := by decide +kernel
theorem dX4_note_97 : decode cX4_note 97 = .ok (.putfield 91, 3) := by decide +kernel
theorem dX4_note_100 : decode cX4_note 100 = .ok (.aload_n 0, 1) := by decide +kernel
theorem dX4_note_101 : decode cX4_note 101 = .ok (.getfield 91, 3) := by decide +kernel
theorem dX4_note_104 : decode cX4_note 104 = .ok (.ireturn, 1) := by decide +kernel
set_option maxRecDepth 20000 in
theorem ggX4_strike_X4_isIn : GoodIn wsX4_strike wsX4_isIn := goodIn_r _ [11] (by decide +kernel) (by decide +kernel)
set_option maxRecDepth 20000 in
theorem gX4_strike_X4_isIn : GoodIn wsX4_strike (va_wsS RX4 41 yX4_isIn wsX4_isIn) := goodIn_app (goodIn_of _ (by decide +kernel)) ggX4_strike_X4_isIn
set_option maxRecDepth 20000 in
theorem ggX4_strike_X4_no : GoodIn wsX4_strike wsX4_no := goodIn_r _ [15, 1, 16, 17, 18, 19, 20, 21, 22, 23, 24] (by decide +kernel) (by decide +kernel)
set_option maxRecDepth 20000 in
theorem gX4_strike_X4_no : GoodIn wsX4_strike (wsV RX4 49 RX4 yX4_no wsX4_no) := goodIn_app (goodIn_of _ (by decide +kernel)) ggX4_strike_X4_no
theorem dX4_strike_0 : decode cX4_strike 0 = .ok (.aload_n 0, 1) := by decide +kernel
theorem dX4_strike_1 : decode cX4_strike 1 = .ok (.iconst 0, 1) := by decide +kernel
theorem dX4_strike_2 : decode cX4_strike 2 = .ok (.putfield 35, 3) := by decide +kernel
theorem dX4_strike_5 : decode cX4_strike 5 = .ok (.iload_n 1, 1) := by decide +kernel
theorem dX4_strike_6 : decode cX4_strike 6 = .ok (.iconst 0, 1) := by decide +kernel
theorem dX4_strike_7 : decode cX4_strike 7 = .ok (.aload_n 0, 1) := by decide +kernel
theorem dX4_strike_8 : decode cX4_strike 8 = .ok (.getfield 91, 3) := by decide +kernel
theorem dX4_strike_11 : decode cX4_strike 11 = .ok (.iconst 1, 1) := by decide +kernel
theorem dX4_strike_12 : decode cX4_strike 12 = .ok (.isub, 1) := by decide +kernel
theorem dX4_strike_13 : decode cX4_strike 13 = .ok (.invokestatic 41, 3) := by decide +kernel
theorem dX4_strike_16 : decode cX4_strike 16 = .ok (.ifCond .ne 9, 3) := by decide +kernel
theorem dX4_strike_19 : decode cX4_strike 19 = .ok (.aload_n 0, 1) := by decide +kernel
theorem dX4_strike_20 : decode cX4_strike 20 = .ok (.iconst 1, 1) := by decide +kernel
theorem dX4_strike_21 : decode cX4_strike 21 = .ok (.invokevirtual 49, 3) := by decide +kernel
theorem dX4_strike_24 : decode cX4_strike 24 = .ok (.ireturn, 1) := by decide +kernel
theorem dX4_strike_25 : decode cX4_strike 25 = .ok (.aload_n 0, 1) := by decide +kernel
theorem dX4_strike_26 : decode cX4_strike 26 = .ok (.getfield 13, 3) := by decide +kernel
theorem dX4_strike_29 : decode cX4_strike 29 = .ok (.iconst 3, 1) := by decide +kernel
theorem dX4_strike_30 : decode cX4_strike 30 = .ok (.iload_n 1, 1) := by decide +kernel
theorem dX4_strike_31 : decode cX4_strike 31 = .ok (.imul, 1) := by decide +kernel
theorem dX4_strike_32 : decode cX4_strike 32 = .ok (.iconst 1, 1) := by decide +kernel
theorem dX4_strike_33 : decode cX4_strike 33 = .ok (.iadd, 1) := by decide +kernel
theorem dX4_strike_34 : decode cX4_strike 34 = .ok (.iaload, 1) := by decide +kernel
theorem dX4_strike_35 : decode cX4_strike 35 = .ok (.istore_n 2, 1) := by decide +kernel
theorem dX4_strike_36 : decode cX4_strike 36 = .ok (.aload_n 0, 1) := by decide +kernel
theorem dX4_strike_37 : decode cX4_strike 37 = .ok (.dup, 1) := by decide +kernel
theorem dX4_strike_38 : decode cX4_strike 38 = .ok (.getfield 91, 3) := by decide +kernel
theorem dX4_strike_41 : decode cX4_strike 41 = .ok (.iconst 1, 1) := by decide +kernel
theorem dX4_strike_42 : decode cX4_strike 42 = .ok (.isub, 1) := by decide +kernel
theorem dX4_strike_43 : decode cX4_strike 43 = .ok (.putfield 91, 3) := by decide +kernel
theorem dX4_strike_46 : decode cX4_strike 46 = .ok (.aload_n 0, 1) := by decide +kernel
theorem dX4_strike_47 : decode cX4_strike 47 = .ok (.getfield 13, 3) := by decide +kernel
theorem dX4_strike_50 : decode cX4_strike 50 = .ok (.iconst 3, 1) := by decide +kernel
theorem dX4_strike_51 : decode cX4_strike 51 = .ok (.iload_n 1, 1) := by decide +kernel
theorem dX4_strike_52 : decode cX4_strike 52 = .ok (.imul, 1) := by decide +kernel
theorem dX4_strike_53 : decode cX4_strike 53 = .ok (.iconst 3, 1) := by decide +kernel
theorem dX4_strike_54 : decode cX4_strike 54 = .ok (.iadd, 1) := by decide +kernel
theorem dX4_strike_55 : decode cX4_strike 55 = .ok (.aload_n 0, 1) := by decide +kernel
theorem dX4_strike_56 : decode cX4_strike 56 = .ok (.getfield 13, 3) := by decide +kernel
theorem dX4_strike_59 : decode cX4_strike 59 = .ok (.iconst 3, 1) := by decide +kernel
theorem dX4_strike_60 : decode cX4_strike 60 = .ok (.iload_n 1, 1) := by decide +kernel
theorem dX4_strike_61 : decode cX4_strike 61 = .ok (.imul, 1) := by decide +kernel
theorem dX4_strike_62 : decode cX4_strike 62 = .ok (.iconst 3, 1) := by decide +kernel
theorem dX4_strike_63 : decode cX4_strike 63 = .ok (.aload_n 0, 1) := by decide +kernel
theorem dX4_strike_64 : decode cX4_strike 64 = .ok (.getfield 91, 3) := by decide +kernel
theorem dX4_strike_67 : decode cX4_strike 67 = .ok (.iload_n 1, 1) := by decide +kernel
theorem dX4_strike_68 : decode cX4_strike 68 = .ok (.isub, 1) := by decide +kernel
theorem dX4_strike_69 : decode cX4_strike 69 = .ok (.imul, 1) := by decide +kernel
theorem dX4_strike_70 : decode cX4_strike 70 = .ok (.invokestatic 94, 3) := by decide +kernel
theorem dX4_strike_73 : decode cX4_strike 73 = .ok (.iload_n 2, 1) := by decide +kernel
theorem dX4_strike_74 : decode cX4_strike 74 = .ok (.ireturn, 1) := by decide +kernel
set_option maxRecDepth 20000 in
theorem ggX4_written_X4_isIn : GoodIn wsX4_written wsX4_isIn := goodIn_r _ [7] (by decide +kernel) (by decide +kernel)
set_option maxRecDepth 20000 in
theorem gX4_written_X4_isIn : GoodIn wsX4_written (va_wsS RX4 41 yX4_isIn wsX4_isIn) := goodIn_app (goodIn_of _ (by decide +kernel)) ggX4_written_X4_isIn
set_option maxRecDepth 20000 in
theorem ggX4_written_X4_no : GoodIn wsX4_written wsX4_no := goodIn_r _ [11, 1, 12, 13, 14, 15, 16, 17, 18, 19, 20] (by decide +kernel) (by decide +kernel)
set_option maxRecDepth 20000 in
theorem gX4_written_X4_no : GoodIn wsX4_written (wsV RX4 49 RX4 yX4_no wsX4_no) := goodIn_app (goodIn_of _ (by decide +kernel)) ggX4_written_X4_no
theorem dX4_written_0 : decode cX4_written 0 = .ok (.aload_n 0, 1) := by decide +kernel
theorem dX4_written_1 : decode cX4_written 1 = .ok (.iconst 0, 1) := by decide +kernel
theorem dX4_written_2 : decode cX4_written 2 = .ok (.putfield 35, 3) := by decide +kernel
theorem dX4_written_5 : decode cX4_written 5 = .ok (.iload_n 1, 1) := by decide +kernel
theorem dX4_written_6 : decode cX4_written 6 = .ok (.iconst 0, 1) := by decide +kernel
theorem dX4_written_7 : decode cX4_written 7 = .ok (.aload_n 0, 1) := by decide +kernel
theorem dX4_written_8 : decode cX4_written 8 = .ok (.getfield 91, 3) := by decide +kernel
theorem dX4_written_11 : decode cX4_written 11 = .ok (.iconst 1, 1) := by decide +kernel
theorem dX4_written_12 : decode cX4_written 12 = .ok (.isub, 1) := by decide +kernel
theorem dX4_written_13 : decode cX4_written 13 = .ok (.invokestatic 41, 3) := by decide +kernel
theorem dX4_written_16 : decode cX4_written 16 = .ok (.ifCond .eq 25, 3) := by decide +kernel
theorem dX4_written_19 : decode cX4_written 19 = .ok (.iload_n 2, 1) := by decide +kernel
theorem dX4_written_20 : decode cX4_written 20 = .ok (.iconst 0, 1) := by decide +kernel
theorem dX4_written_21 : decode cX4_written 21 = .ok (.iconst 2, 1) := by decide +kernel
theorem dX4_written_22 : decode cX4_written 22 = .ok (.invokestatic 41, 3) := by decide +kernel
theorem dX4_written_25 : decode cX4_written 25 = .ok (.ifCond .eq 16, 3) := by decide +kernel
theorem dX4_written_28 : decode cX4_written 28 = .ok (.aload_n 0, 1) := by decide +kernel
theorem dX4_written_29 : decode cX4_written 29 = .ok (.getfield 13, 3) := by decide +kernel
theorem dX4_written_32 : decode cX4_written 32 = .ok (.iconst 3, 1) := by decide +kernel
theorem dX4_written_33 : decode cX4_written 33 = .ok (.iload_n 1, 1) := by decide +kernel
theorem dX4_written_34 : decode cX4_written 34 = .ok (.imul, 1) := by decide +kernel
theorem dX4_written_35 : decode cX4_written 35 = .ok (.iload_n 2, 1) := by decide +kernel
theorem dX4_written_36 : decode cX4_written 36 = .ok (.iadd, 1) := by decide +kernel
theorem dX4_written_37 : decode cX4_written 37 = .ok (.iaload, 1) := by decide +kernel
theorem dX4_written_38 : decode cX4_written 38 = .ok (.goto 8, 3) := by decide +kernel
theorem dX4_written_41 : decode cX4_written 41 = .ok (.aload_n 0, 1) := by decide +kernel
theorem dX4_written_42 : decode cX4_written 42 = .ok (.iconst 1, 1) := by decide +kernel
theorem dX4_written_43 : decode cX4_written 43 = .ok (.invokevirtual 49, 3) := by decide +kernel
theorem dX4_written_46 : decode cX4_written 46 = .ok (.ireturn, 1) := by decide +kernel
set_option maxRecDepth 20000 in
theorem ggX4_play_X4_isIn : GoodIn wsX4_play wsX4_isIn := goodIn_r _ [6] (by decide +kernel) (by decide +kernel)
set_option maxRecDepth 20000 in
theorem gX4_play_X4_isIn : GoodIn wsX4_play (va_wsS RX4 41 yX4_isIn wsX4_isIn) := goodIn_app (goodIn_of _ (by decide +kernel)) ggX4_play_X4_isIn
set_option maxRecDepth 20000 in
theorem ggX4_play_X4_no : GoodIn wsX4_play wsX4_no := goodIn_r _ [10, 1, 50, 51, 52, 53, 54, 55, 56, 57, 58] (by decide +kernel) (by decide +kernel)
set_option maxRecDepth 20000 in
theorem gX4_play_X4_no : GoodIn wsX4_play (wsV RX4 49 RX4 yX4_no wsX4_no) := goodIn_app (goodIn_of _ (by decide +kernel)) ggX4_play_X4_no
set_option maxRecDepth 20000 in
theorem ggX4_play_X3_pass : GoodIn wsX4_play wsX3_pass := goodIn_r _ [15, 16, 17, 18, 19, 20, 21, 22, 23, 24, 25, 26, 27, 28, 29, 30, 31, 32, 14, 33, 34, 35, 36, 37, 38, 39, 40, 41, 42, 43, 44, 45, 46, 47, 48, 49, 59, 60, 61, 62, 63, 64, 65, 66, 67, 68, 69, 70, 50, 51, 52, 53, 54, 55, 56, 57, 58] (by decide +kernel) (by decide +kernel)
set_option maxRecDepth 20000 in
theorem gX4_play_X3_pass : GoodIn wsX4_play (wsV RX4 103 RX3 yX3_pass wsX3_pass) := goodIn_app (goodIn_of _ (by decide +kernel)) ggX4_play_X3_pass
theorem dX4_play_0 : decode cX4_play 0 = .ok (.aload_n 0, 1) := by decide +kernel
theorem dX4_play_1 : decode cX4_play 1 = .ok (.iconst 0, 1) := by decide +kernel
theorem dX4_play_2 : decode cX4_play 2 = .ok (.putfield 35, 3) := by decide +kernel
theorem dX4_play_5 : decode cX4_play 5 = .ok (.iload_n 1, 1) := by decide +kernel
theorem dX4_play_6 : decode cX4_play 6 = .ok (.iconst 1, 1) := by decide +kernel
theorem dX4_play_7 : decode cX4_play 7 = .ok (.sipush 200, 3) := by decide +kernel
theorem dX4_play_10 : decode cX4_play 10 = .ok (.invokestatic 41, 3) := by decide +kernel
theorem dX4_play_13 : decode cX4_play 13 = .ok (.ifCond .ne 9, 3) := by decide +kernel
theorem dX4_play_16 : decode cX4_play 16 = .ok (.aload_n 0, 1) := by decide +kernel
theorem dX4_play_17 : decode cX4_play 17 = .ok (.iconst 1, 1) := by decide +kernel
theorem dX4_play_18 : decode cX4_play 18 = .ok (.invokevirtual 49, 3) := by decide +kernel
theorem dX4_play_21 : decode cX4_play 21 = .ok (.ireturn, 1) := by decide +kernel
theorem dX4_play_22 : decode cX4_play 22 = .ok (.aload_n 0, 1) := by decide +kernel
theorem dX4_play_23 : decode cX4_play 23 = .ok (.getfield 28, 3) := by decide +kernel
theorem dX4_play_26 : decode cX4_play 26 = .ok (.getfield 100, 3) := by decide +kernel
theorem dX4_play_29 : decode cX4_play 29 = .ok (.istore_n 2, 1) := by decide +kernel
theorem dX4_play_30 : decode cX4_play 30 = .ok (.iconst 0, 1) := by decide +kernel
theorem dX4_play_31 : decode cX4_play 31 = .ok (.istore_n 3, 1) := by decide +kernel
theorem dX4_play_32 : decode cX4_play 32 = .ok (.iload_n 3, 1) := by decide +kernel
theorem dX4_play_33 : decode cX4_play 33 = .ok (.iload_n 1, 1) := by decide +kernel
theorem dX4_play_34 : decode cX4_play 34 = .ok (.if_icmp .ge 16, 3) := by decide +kernel
theorem dX4_play_37 : decode cX4_play 37 = .ok (.aload_n 0, 1) := by decide +kernel
theorem dX4_play_38 : decode cX4_play 38 = .ok (.getfield 28, 3) := by decide +kernel
theorem dX4_play_41 : decode cX4_play 41 = .ok (.invokevirtual 103, 3) := by decide +kernel
theorem dX4_play_44 : decode cX4_play 44 = .ok (.iinc 3 1, 3) := by decide +kernel
theorem dX4_play_47 : decode cX4_play 47 = .ok (.goto (-15), 3) := by decide +kernel
theorem dX4_play_50 : decode cX4_play 50 = .ok (.aload_n 0, 1) := by decide +kernel
theorem dX4_play_51 : decode cX4_play 51 = .ok (.getfield 28, 3) := by decide +kernel
theorem dX4_play_54 : decode cX4_play 54 = .ok (.getfield 100, 3) := by decide +kernel
theorem dX4_play_57 : decode cX4_play 57 = .ok (.iload_n 2, 1) := by decide +kernel
theorem dX4_play_58 : decode cX4_play 58 = .ok (.isub, 1) := by decide +kernel
theorem dX4_play_59 : decode cX4_play 59 = .ok (.ireturn, 1) := by decide +kernel
set_option maxRecDepth 20000 in
theorem ggX4_counted_X4_against : GoodIn wsX4_counted wsX4_against := goodIn_r _ [9, 2, 1, 10, 11, 12, 13, 14, 15, 16, 17, 18, 19, 20, 21, 22, 23, 24, 25, 26, 27, 28, 34, 35, 36, 37, 38, 39, 40, 41, 42, 43, 44, 45, 46, 47, 48, 49, 50, 51, 52, 53, 54] (by decide +kernel) (by decide +kernel)
set_option maxRecDepth 20000 in
theorem gX4_counted_X4_against : GoodIn wsX4_counted (wsV RX4 78 RX4 yX4_against wsX4_against) := goodIn_app (goodIn_of _ (by decide +kernel)) ggX4_counted_X4_against
set_option maxRecDepth 20000 in
theorem ggX4_counted_X3_cracked : GoodIn wsX4_counted wsX3_cracked := goodIn_r _ [32, 24, 33, 43, 44, 45, 46, 47, 48, 49, 50, 51, 52, 53, 54, 34, 35, 36, 37, 38, 39, 40, 41, 42] (by decide +kernel) (by decide +kernel)
set_option maxRecDepth 20000 in
theorem gX4_counted_X3_cracked : GoodIn wsX4_counted (wsV RX4 109 RX3 yX3_cracked wsX3_cracked) := goodIn_app (goodIn_of _ (by decide +kernel)) ggX4_counted_X3_cracked
theorem dX4_counted_0 : decode cX4_counted 0 = .ok (.iconst 0, 1) := by decide +kernel
theorem dX4_counted_1 : decode cX4_counted 1 = .ok (.istore_n 2, 1) := by decide +kernel
theorem dX4_counted_2 : decode cX4_counted 2 = .ok (.iconst 0, 1) := by decide +kernel
theorem dX4_counted_3 : decode cX4_counted 3 = .ok (.istore_n 3, 1) := by decide +kernel
theorem dX4_counted_4 : decode cX4_counted 4 = .ok (.iconst 0, 1) := by decide +kernel
theorem dX4_counted_5 : decode cX4_counted 5 = .ok (.istore 4, 2) := by decide +kernel
theorem dX4_counted_7 : decode cX4_counted 7 = .ok (.iload 4, 2) := by decide +kernel
theorem dX4_counted_9 : decode cX4_counted 9 = .ok (.iconst 4, 1) := by decide +kernel
theorem dX4_counted_10 : decode cX4_counted 10 = .ok (.if_icmp .ge 22, 3) := by decide +kernel
theorem dX4_counted_13 : decode cX4_counted 13 = .ok (.iload_n 2, 1) := by decide +kernel
theorem dX4_counted_14 : decode cX4_counted 14 = .ok (.aload_n 0, 1) := by decide +kernel
theorem dX4_counted_15 : decode cX4_counted 15 = .ok (.getfield 28, 3) := by decide +kernel
theorem dX4_counted_18 : decode cX4_counted 18 = .ok (.getfield 85, 3) := by decide +kernel
theorem dX4_counted_21 : decode cX4_counted 21 = .ok (.iload 4, 2) := by decide +kernel
theorem dX4_counted_23 : decode cX4_counted 23 = .ok (.iaload, 1) := by decide +kernel
theorem dX4_counted_24 : decode cX4_counted 24 = .ok (.iadd, 1) := by decide +kernel
theorem dX4_counted_25 : decode cX4_counted 25 = .ok (.istore_n 2, 1) := by decide +kernel
theorem dX4_counted_26 : decode cX4_counted 26 = .ok (.iinc 4 1, 3) := by decide +kernel
theorem dX4_counted_29 : decode cX4_counted 29 = .ok (.goto (-22), 3) := by decide +kernel
theorem dX4_counted_32 : decode cX4_counted 32 = .ok (.iconst 0, 1) := by decide +kernel
theorem dX4_counted_33 : decode cX4_counted 33 = .ok (.istore 4, 2) := by decide +kernel
theorem dX4_counted_35 : decode cX4_counted 35 = .ok (.iload 4, 2) := by decide +kernel
theorem dX4_counted_37 : decode cX4_counted 37 = .ok (.aload_n 0, 1) := by decide +kernel
theorem dX4_counted_38 : decode cX4_counted 38 = .ok (.getfield 38, 3) := by decide +kernel
theorem dX4_counted_41 : decode cX4_counted 41 = .ok (.if_icmp .ge 18, 3) := by decide +kernel
theorem dX4_counted_44 : decode cX4_counted 44 = .ok (.iload_n 3, 1) := by decide +kernel
theorem dX4_counted_45 : decode cX4_counted 45 = .ok (.aload_n 0, 1) := by decide +kernel
theorem dX4_counted_46 : decode cX4_counted 46 = .ok (.iload 4, 2) := by decide +kernel
theorem dX4_counted_48 : decode cX4_counted 48 = .ok (.invokevirtual 78, 3) := by decide +kernel
theorem dX4_counted_51 : decode cX4_counted 51 = .ok (.iadd, 1) := by decide +kernel
theorem dX4_counted_52 : decode cX4_counted 52 = .ok (.istore_n 3, 1) := by decide +kernel
theorem dX4_counted_53 : decode cX4_counted 53 = .ok (.iinc 4 1, 3) := by decide +kernel
theorem dX4_counted_56 : decode cX4_counted 56 = .ok (.goto (-21), 3) := by decide +kernel
theorem dX4_counted_59 : decode cX4_counted 59 = .ok (.bipush 9, 2) := by decide +kernel
theorem dX4_counted_61 : decode cX4_counted 61 = .ok (.newarray .int, 2) := by decide +kernel
theorem dX4_counted_63 : decode cX4_counted 63 = .ok (.dup, 1) := by decide +kernel
theorem dX4_counted_64 : decode cX4_counted 64 = .ok (.iconst 0, 1) := by decide +kernel
theorem dX4_counted_65 : decode cX4_counted 65 = .ok (.aload_n 0, 1) := by decide +kernel
theorem dX4_counted_66 : decode cX4_counted 66 = .ok (.getfield 28, 3) := by decide +kernel
theorem dX4_counted_69 : decode cX4_counted 69 = .ok (.getfield 106, 3) := by decide +kernel
theorem dX4_counted_72 : decode cX4_counted 72 = .ok (.iastore, 1) := by decide +kernel
theorem dX4_counted_73 : decode cX4_counted 73 = .ok (.dup, 1) := by decide +kernel
theorem dX4_counted_74 : decode cX4_counted 74 = .ok (.iconst 1, 1) := by decide +kernel
theorem dX4_counted_75 : decode cX4_counted 75 = .ok (.aload_n 0, 1) := by decide +kernel
theorem dX4_counted_76 : decode cX4_counted 76 = .ok (.getfield 38, 3) := by decide +kernel
theorem dX4_counted_79 : decode cX4_counted 79 = .ok (.iastore, 1) := by decide +kernel
theorem dX4_counted_80 : decode cX4_counted 80 = .ok (.dup, 1) := by decide +kernel
theorem dX4_counted_81 : decode cX4_counted 81 = .ok (.iconst 2, 1) := by decide +kernel
theorem dX4_counted_82 : decode cX4_counted 82 = .ok (.aload_n 0, 1) := by decide +kernel
theorem dX4_counted_83 : decode cX4_counted 83 = .ok (.getfield 28, 3) := by decide +kernel
theorem dX4_counted_86 : decode cX4_counted 86 = .ok (.invokevirtual 109, 3) := by decide +kernel
theorem dX4_counted_89 : decode cX4_counted 89 = .ok (.iastore, 1) := by decide +kernel
theorem dX4_counted_90 : decode cX4_counted 90 = .ok (.dup, 1) := by decide +kernel
theorem dX4_counted_91 : decode cX4_counted 91 = .ok (.iconst 3, 1) := by decide +kernel
theorem dX4_counted_92 : decode cX4_counted 92 = .ok (.aload_n 0, 1) := by decide +kernel
theorem dX4_counted_93 : decode cX4_counted 93 = .ok (.getfield 91, 3) := by decide +kernel
theorem dX4_counted_96 : decode cX4_counted 96 = .ok (.iastore, 1) := by decide +kernel
theorem dX4_counted_97 : decode cX4_counted 97 = .ok (.dup, 1) := by decide +kernel
theorem dX4_counted_98 : decode cX4_counted 98 = .ok (.iconst 4, 1) := by decide +kernel
theorem dX4_counted_99 : decode cX4_counted 99 = .ok (.aload_n 0, 1) := by decide +kernel
theorem dX4_counted_100 : decode cX4_counted 100 = .ok (.getfield 28, 3) := by decide +kernel
theorem dX4_counted_103 : decode cX4_counted 103 = .ok (.getfield 100, 3) := by decide +kernel
theorem dX4_counted_106 : decode cX4_counted 106 = .ok (.iastore, 1) := by decide +kernel
theorem dX4_counted_107 : decode cX4_counted 107 = .ok (.dup, 1) := by decide +kernel
theorem dX4_counted_108 : decode cX4_counted 108 = .ok (.iconst 5, 1) := by decide +kernel
theorem dX4_counted_109 : decode cX4_counted 109 = .ok (.aload_n 0, 1) := by decide +kernel
theorem dX4_counted_110 : decode cX4_counted 110 = .ok (.getfield 28, 3) := by decide +kernel
theorem dX4_counted_113 : decode cX4_counted 113 = .ok (.getfield 113, 3) := by decide +kernel
theorem dX4_counted_116 : decode cX4_counted 116 = .ok (.iastore, 1) := by decide +kernel
theorem dX4_counted_117 : decode cX4_counted 117 = .ok (.dup, 1) := by decide +kernel
theorem dX4_counted_118 : decode cX4_counted 118 = .ok (.bipush 6, 2) := by decide +kernel
theorem dX4_counted_120 : decode cX4_counted 120 = .ok (.aload_n 0, 1) := by decide +kernel
theorem dX4_counted_121 : decode cX4_counted 121 = .ok (.getfield 28, 3) := by decide +kernel
theorem dX4_counted_124 : decode cX4_counted 124 = .ok (.getfield 116, 3) := by decide +kernel
theorem dX4_counted_127 : decode cX4_counted 127 = .ok (.iastore, 1) := by decide +kernel
theorem dX4_counted_128 : decode cX4_counted 128 = .ok (.dup, 1) := by decide +kernel
theorem dX4_counted_129 : decode cX4_counted 129 = .ok (.bipush 7, 2) := by decide +kernel
theorem dX4_counted_131 : decode cX4_counted 131 = .ok (.iload_n 2, 1) := by decide +kernel
theorem dX4_counted_132 : decode cX4_counted 132 = .ok (.iastore, 1) := by decide +kernel
theorem dX4_counted_133 : decode cX4_counted 133 = .ok (.dup, 1) := by decide +kernel
theorem dX4_counted_134 : decode cX4_counted 134 = .ok (.bipush 8, 2) := by decide +kernel
theorem dX4_counted_136 : decode cX4_counted 136 = .ok (.iload_n 3, 1) := by decide +kernel
theorem dX4_counted_137 : decode cX4_counted 137 = .ok (.iconst 2, 1) := by decide +kernel
theorem dX4_counted_138 : decode cX4_counted 138 = .ok (.idiv, 1) := by decide +kernel
theorem dX4_counted_139 : decode cX4_counted 139 = .ok (.iastore, 1) := by decide +kernel
theorem dX4_counted_140 : decode cX4_counted 140 = .ok (.astore 4, 2) := by decide +kernel
theorem dX4_counted_142 : decode cX4_counted 142 = .ok (.aload 4, 2) := by decide +kernel
theorem dX4_counted_144 : decode cX4_counted 144 = .ok (.iload_n 1, 1) := by decide +kernel
theorem dX4_counted_145 : decode cX4_counted 145 = .ok (.iaload, 1) := by decide +kernel
theorem dX4_counted_146 : decode cX4_counted 146 = .ok (.ireturn, 1) := by decide +kernel
set_option maxRecDepth 20000 in
theorem ggX4_count_X4_isIn : GoodIn wsX4_count wsX4_isIn := goodIn_r _ [5] (by decide +kernel) (by decide +kernel)
set_option maxRecDepth 20000 in
theorem gX4_count_X4_isIn : GoodIn wsX4_count (va_wsS RX4 41 yX4_isIn wsX4_isIn) := goodIn_app (goodIn_of _ (by decide +kernel)) ggX4_count_X4_isIn
set_option maxRecDepth 20000 in
theorem ggX4_count_X4_counted : GoodIn wsX4_count wsX4_counted := goodIn_r _ [9, 10, 11, 12, 13, 14, 15, 16, 4, 17, 18, 19, 20, 21, 22, 23, 24, 25, 26, 27, 28, 29, 30, 31, 32, 33, 34, 35, 36, 37, 38, 39, 40, 41, 46, 47, 48, 49, 50, 51, 52, 53, 54, 55, 56, 57, 58, 59, 60, 61, 62, 63, 64, 65, 66] (by decide +kernel) (by decide +kernel)
set_option maxRecDepth 20000 in
theorem gX4_count_X4_counted : GoodIn wsX4_count (wsV RX4 119 RX4 yX4_counted wsX4_counted) := goodIn_app (goodIn_of _ (by decide +kernel)) ggX4_count_X4_counted
set_option maxRecDepth 20000 in
theorem ggX4_count_X4_no : GoodIn wsX4_count wsX4_no := goodIn_r _ [45, 1, 46, 47, 48, 49, 50, 51, 52, 53, 54] (by decide +kernel) (by decide +kernel)
set_option maxRecDepth 20000 in
theorem gX4_count_X4_no : GoodIn wsX4_count (wsV RX4 49 RX4 yX4_no wsX4_no) := goodIn_app (goodIn_of _ (by decide +kernel)) ggX4_count_X4_no
theorem dX4_count_0 : decode cX4_count 0 = .ok (.aload_n 0, 1) := by decide +kernel
theorem dX4_count_1 : decode cX4_count 1 = .ok (.iconst 0, 1) := by decide +kernel
theorem dX4_count_2 : decode cX4_count 2 = .ok (.putfield 35, 3) := by decide +kernel
theorem dX4_count_5 : decode cX4_count 5 = .ok (.iload_n 1, 1) := by decide +kernel
theorem dX4_count_6 : decode cX4_count 6 = .ok (.iconst 0, 1) := by decide +kernel
theorem dX4_count_7 : decode cX4_count 7 = .ok (.bipush 8, 2) := by decide +kernel
theorem dX4_count_9 : decode cX4_count 9 = .ok (.invokestatic 41, 3) := by decide +kernel
theorem dX4_count_12 : decode cX4_count 12 = .ok (.ifCond .eq 11, 3) := by decide +kernel
theorem dX4_count_15 : decode cX4_count 15 = .ok (.aload_n 0, 1) := by decide +kernel
theorem dX4_count_16 : decode cX4_count 16 = .ok (.iload_n 1, 1) := by decide +kernel
theorem dX4_count_17 : decode cX4_count 17 = .ok (.invokevirtual 119, 3) := by decide +kernel
theorem dX4_count_20 : decode cX4_count 20 = .ok (.goto 8, 3) := by decide +kernel
theorem dX4_count_23 : decode cX4_count 23 = .ok (.aload_n 0, 1) := by decide +kernel
theorem dX4_count_24 : decode cX4_count 24 = .ok (.iconst 1, 1) := by decide +kernel
theorem dX4_count_25 : decode cX4_count 25 = .ok (.invokevirtual 49, 3) := by decide +kernel
theorem dX4_count_28 : decode cX4_count 28 = .ok (.ireturn, 1) := by decide +kernel
set_option maxRecDepth 20000 in
theorem ggX4_needed_X4_isIn : GoodIn wsX4_needed wsX4_isIn := goodIn_r _ [5] (by decide +kernel) (by decide +kernel)
set_option maxRecDepth 20000 in
theorem gX4_needed_X4_isIn : GoodIn wsX4_needed (va_wsS RX4 41 yX4_isIn wsX4_isIn) := goodIn_app (goodIn_of _ (by decide +kernel)) ggX4_needed_X4_isIn
theorem dX4_needed_0 : decode cX4_needed 0 = .ok (.iconst 4, 1) := by decide +kernel
theorem dX4_needed_1 : decode cX4_needed 1 = .ok (.aload_n 0, 1) := by decide +kernel
theorem dX4_needed_2 : decode cX4_needed 2 = .ok (.getfield 20, 3) := by decide +kernel
theorem dX4_needed_5 : decode cX4_needed 5 = .ok (.iload_n 1, 1) := by decide +kernel
theorem dX4_needed_6 : decode cX4_needed 6 = .ok (.iaload, 1) := by decide +kernel
theorem dX4_needed_7 : decode cX4_needed 7 = .ok (.imul, 1) := by decide +kernel
theorem dX4_needed_8 : decode cX4_needed 8 = .ok (.bipush 120, 2) := by decide +kernel
theorem dX4_needed_10 : decode cX4_needed 10 = .ok (.bipush 8, 2) := by decide +kernel
theorem dX4_needed_12 : decode cX4_needed 12 = .ok (.aload_n 0, 1) := by decide +kernel
theorem dX4_needed_13 : decode cX4_needed 13 = .ok (.getfield 20, 3) := by decide +kernel
theorem dX4_needed_16 : decode cX4_needed 16 = .ok (.iload_n 1, 1) := by decide +kernel
theorem dX4_needed_17 : decode cX4_needed 17 = .ok (.iaload, 1) := by decide +kernel
theorem dX4_needed_18 : decode cX4_needed 18 = .ok (.imul, 1) := by decide +kernel
theorem dX4_needed_19 : decode cX4_needed 19 = .ok (.isub, 1) := by decide +kernel
theorem dX4_needed_20 : decode cX4_needed 20 = .ok (.iload_n 2, 1) := by decide +kernel
theorem dX4_needed_21 : decode cX4_needed 21 = .ok (.isub, 1) := by decide +kernel
theorem dX4_needed_22 : decode cX4_needed 22 = .ok (.imul, 1) := by decide +kernel
theorem dX4_needed_23 : decode cX4_needed 23 = .ok (.istore_n 3, 1) := by decide +kernel
theorem dX4_needed_24 : decode cX4_needed 24 = .ok (.iload_n 3, 1) := by decide +kernel
theorem dX4_needed_25 : decode cX4_needed 25 = .ok (.iconst 0, 1) := by decide +kernel
theorem dX4_needed_26 : decode cX4_needed 26 = .ok (.bipush 100, 2) := by decide +kernel
theorem dX4_needed_28 : decode cX4_needed 28 = .ok (.aload_n 0, 1) := by decide +kernel
theorem dX4_needed_29 : decode cX4_needed 29 = .ok (.getfield 20, 3) := by decide +kernel
theorem dX4_needed_32 : decode cX4_needed 32 = .ok (.iload_n 1, 1) := by decide +kernel
theorem dX4_needed_33 : decode cX4_needed 33 = .ok (.iaload, 1) := by decide +kernel
theorem dX4_needed_34 : decode cX4_needed 34 = .ok (.imul, 1) := by decide +kernel
theorem dX4_needed_35 : decode cX4_needed 35 = .ok (.invokestatic 41, 3) := by decide +kernel
theorem dX4_needed_38 : decode cX4_needed 38 = .ok (.ifCond .eq 7, 3) := by decide +kernel
theorem dX4_needed_41 : decode cX4_needed 41 = .ok (.iload_n 3, 1) := by decide +kernel
theorem dX4_needed_42 : decode cX4_needed 42 = .ok (.goto 4, 3) := by decide +kernel
theorem dX4_needed_45 : decode cX4_needed 45 = .ok (.iconst (-1), 1) := by decide +kernel
theorem dX4_needed_46 : decode cX4_needed 46 = .ok (.ireturn, 1) := by decide +kernel
set_option maxRecDepth 20000 in
theorem ggX4_needs_X4_isGlass : GoodIn wsX4_needs wsX4_isGlass := goodIn_r _ [6, 7, 8, 9, 5, 10, 20, 21, 22, 23, 24, 25, 26, 27, 28] (by decide +kernel) (by decide +kernel)
set_option maxRecDepth 20000 in
theorem gX4_needs_X4_isGlass : GoodIn wsX4_needs (wsV RX4 56 RX4 yX4_isGlass wsX4_isGlass) := goodIn_app (goodIn_of _ (by decide +kernel)) ggX4_needs_X4_isGlass
set_option maxRecDepth 20000 in
theorem ggX4_needs_X4_no : GoodIn wsX4_needs wsX4_no := goodIn_r _ [14, 1, 20, 21, 22, 23, 24, 25, 26, 27, 28] (by decide +kernel) (by decide +kernel)
set_option maxRecDepth 20000 in
theorem gX4_needs_X4_no : GoodIn wsX4_needs (wsV RX4 49 RX4 yX4_no wsX4_no) := goodIn_app (goodIn_of _ (by decide +kernel)) ggX4_needs_X4_no
set_option maxRecDepth 20000 in
theorem ggX4_needs_X4_isIn : GoodIn wsX4_needs wsX4_isIn := goodIn_r _ [10] (by decide +kernel) (by decide +kernel)
set_option maxRecDepth 20000 in
theorem gX4_needs_X4_isIn : GoodIn wsX4_needs (va_wsS RX4 41 yX4_isIn wsX4_isIn) := goodIn_app (goodIn_of _ (by decide +kernel)) ggX4_needs_X4_isIn
set_option maxRecDepth 20000 in
theorem ggX4_needs_X4_needed : GoodIn wsX4_needs wsX4_needed := goodIn_r _ [18, 19, 8, 9, 5, 10, 20, 21, 22, 23, 24, 25, 26, 27, 28] (by decide +kernel) (by decide +kernel)
set_option maxRecDepth 20000 in
theorem gX4_needs_X4_needed : GoodIn wsX4_needs (wsV RX4 122 RX4 yX4_needed wsX4_needed) := goodIn_app (goodIn_of _ (by decide +kernel)) ggX4_needs_X4_needed
theorem dX4_needs_0 : decode cX4_needs 0 = .ok (.aload_n 0, 1) := by decide +kernel
theorem dX4_needs_1 : decode cX4_needs 1 = .ok (.iconst 0, 1) := by decide +kernel
theorem dX4_needs_2 : decode cX4_needs 2 = .ok (.putfield 35, 3) := by decide +kernel
theorem dX4_needs_5 : decode cX4_needs 5 = .ok (.aload_n 0, 1) := by decide +kernel
theorem dX4_needs_6 : decode cX4_needs 6 = .ok (.iload_n 1, 1) := by decide +kernel
theorem dX4_needs_7 : decode cX4_needs 7 = .ok (.invokevirtual 56, 3) := by decide +kernel
theorem dX4_needs_10 : decode cX4_needs 10 = .ok (.ifCond .ne 9, 3) := by decide +kernel
theorem dX4_needs_13 : decode cX4_needs 13 = .ok (.aload_n 0, 1) := by decide +kernel
theorem dX4_needs_14 : decode cX4_needs 14 = .ok (.iconst 1, 1) := by decide +kernel
theorem dX4_needs_15 : decode cX4_needs 15 = .ok (.invokevirtual 49, 3) := by decide +kernel
theorem dX4_needs_18 : decode cX4_needs 18 = .ok (.ireturn, 1) := by decide +kernel
theorem dX4_needs_19 : decode cX4_needs 19 = .ok (.iload_n 2, 1) := by decide +kernel
theorem dX4_needs_20 : decode cX4_needs 20 = .ok (.iconst 0, 1) := by decide +kernel
theorem dX4_needs_21 : decode cX4_needs 21 = .ok (.bipush 120, 2) := by decide +kernel
theorem dX4_needs_23 : decode cX4_needs 23 = .ok (.invokestatic 41, 3) := by decide +kernel
theorem dX4_needs_26 : decode cX4_needs 26 = .ok (.ifCond .eq 12, 3) := by decide +kernel
theorem dX4_needs_29 : decode cX4_needs 29 = .ok (.aload_n 0, 1) := by decide +kernel
theorem dX4_needs_30 : decode cX4_needs 30 = .ok (.iload_n 1, 1) := by decide +kernel
theorem dX4_needs_31 : decode cX4_needs 31 = .ok (.iload_n 2, 1) := by decide +kernel
theorem dX4_needs_32 : decode cX4_needs 32 = .ok (.invokevirtual 122, 3) := by decide +kernel
theorem dX4_needs_35 : decode cX4_needs 35 = .ok (.goto 8, 3) := by decide +kernel
theorem dX4_needs_38 : decode cX4_needs 38 = .ok (.aload_n 0, 1) := by decide +kernel
theorem dX4_needs_39 : decode cX4_needs 39 = .ok (.iconst 2, 1) := by decide +kernel
theorem dX4_needs_40 : decode cX4_needs 40 = .ok (.invokevirtual 49, 3) := by decide +kernel
theorem dX4_needs_43 : decode cX4_needs 43 = .ok (.ireturn, 1) := by decide +kernel
set_option maxRecDepth 20000 in
theorem ggX4_run_X3_pass : GoodIn wsX4_run wsX3_pass := goodIn_r _ [6, 7, 8, 9, 10, 11, 12, 13, 14, 15, 16, 17, 18, 19, 20, 21, 22, 23, 5, 24, 25, 26, 27, 28, 29, 30, 31, 32, 33, 34, 35, 36, 37, 38, 39, 40, 50, 51, 52, 53, 54, 55, 56, 57, 58, 59, 60, 61, 41, 42, 43, 44, 45, 46, 47, 48, 49] (by decide +kernel) (by decide +kernel)
set_option maxRecDepth 20000 in
theorem gX4_run_X3_pass : GoodIn wsX4_run (wsV RX4 103 RX3 yX3_pass wsX3_pass) := goodIn_app (goodIn_of _ (by decide +kernel)) ggX4_run_X3_pass
theorem dX4_run_0 : decode cX4_run 0 = .ok (.iconst 0, 1) := by decide +kernel
theorem dX4_run_1 : decode cX4_run 1 = .ok (.istore_n 2, 1) := by decide +kernel
theorem dX4_run_2 : decode cX4_run 2 = .ok (.iload_n 2, 1) := by decide +kernel
theorem dX4_run_3 : decode cX4_run 3 = .ok (.iload_n 1, 1) := by decide +kernel
theorem dX4_run_4 : decode cX4_run 4 = .ok (.if_icmp .ge 16, 3) := by decide +kernel
theorem dX4_run_7 : decode cX4_run 7 = .ok (.aload_n 0, 1) := by decide +kernel
theorem dX4_run_8 : decode cX4_run 8 = .ok (.getfield 32, 3) := by decide +kernel
theorem dX4_run_11 : decode cX4_run 11 = .ok (.invokevirtual 103, 3) := by decide +kernel
theorem dX4_run_14 : decode cX4_run 14 = .ok (.iinc 2 1, 3) := by decide +kernel
theorem dX4_run_17 : decode cX4_run 17 = .ok (.goto (-15), 3) := by decide +kernel
theorem dX4_run_20 : decode cX4_run 20 = .ok (.return_, 1) := by decide +kernel
set_option maxRecDepth 20000 in
theorem ggX4_foresee_X4_isIn : GoodIn wsX4_foresee wsX4_isIn := goodIn_r _ [8] (by decide +kernel) (by decide +kernel)
set_option maxRecDepth 20000 in
theorem gX4_foresee_X4_isIn : GoodIn wsX4_foresee (va_wsS RX4 41 yX4_isIn wsX4_isIn) := goodIn_app (goodIn_of _ (by decide +kernel)) ggX4_foresee_X4_isIn
set_option maxRecDepth 20000 in
theorem ggX4_foresee_X4_no : GoodIn wsX4_foresee wsX4_no := goodIn_r _ [12, 1, 72, 73, 74, 75, 76, 77, 78, 79, 80] (by decide +kernel) (by decide +kernel)
set_option maxRecDepth 20000 in
theorem gX4_foresee_X4_no : GoodIn wsX4_foresee (wsV RX4 49 RX4 yX4_no wsX4_no) := goodIn_app (goodIn_of _ (by decide +kernel)) ggX4_foresee_X4_no
set_option maxRecDepth 20000 in
theorem ggX4_foresee_X3_become : GoodIn wsX4_foresee wsX3_become := goodIn_r _ [17, 18, 19, 20, 21, 22, 23, 24, 25, 26, 27, 28, 29, 30, 16, 31, 32, 33, 34, 35, 81, 82, 83, 84, 85, 86, 87, 88, 89, 90, 91, 92] (by decide +kernel) (by decide +kernel)
set_option maxRecDepth 20000 in
theorem gX4_foresee_X3_become : GoodIn wsX4_foresee (wsV RX4 125 RX3 yX3_become wsX3_become) := goodIn_app (goodIn_of _ (by decide +kernel)) ggX4_foresee_X3_become
set_option maxRecDepth 20000 in
theorem ggX4_foresee_X4_run : GoodIn wsX4_foresee wsX4_run := goodIn_r _ [39, 2, 40, 41, 42, 16, 43, 22, 23, 44, 45, 46, 47, 48, 49, 18, 26, 50, 51, 52, 24, 53, 54, 55, 56, 25, 21, 19, 20, 27, 57, 58, 59, 60, 61, 62, 63, 64, 65, 66, 67, 72, 73, 74, 75, 76, 77, 78, 79, 80, 81, 82, 83, 84, 85, 86, 87, 88, 89, 90, 91, 92] (by decide +kernel) (by decide +kernel)
set_option maxRecDepth 20000 in
theorem gX4_foresee_X4_run : GoodIn wsX4_foresee (wsV RX4 129 RX4 yX4_run wsX4_run) := goodIn_app (goodIn_of _ (by decide +kernel)) ggX4_foresee_X4_run
set_option maxRecDepth 20000 in
theorem ggX4_foresee_X3_cracked : GoodIn wsX4_foresee wsX3_cracked := goodIn_r _ [71, 49, 25, 81, 82, 83, 84, 85, 86, 87, 88, 89, 90, 91, 92, 72, 73, 74, 75, 76, 77, 78, 79, 80] (by decide +kernel) (by decide +kernel)
set_option maxRecDepth 20000 in
theorem gX4_foresee_X3_cracked : GoodIn wsX4_foresee (wsV RX4 109 RX3 yX3_cracked wsX3_cracked) := goodIn_app (goodIn_of _ (by decide +kernel)) ggX4_foresee_X3_cracked
theorem dX4_foresee_0 : decode cX4_foresee 0 = .ok (.aload_n 0, 1) := by decide +kernel
theorem dX4_foresee_1 : decode cX4_foresee 1 = .ok (.iconst 0, 1) := by decide +kernel
theorem dX4_foresee_2 : decode cX4_foresee 2 = .ok (.putfield 35, 3) := by decide +kernel
theorem dX4_foresee_5 : decode cX4_foresee 5 = .ok (.iload_n 1, 1) := by decide +kernel
theorem dX4_foresee_6 : decode cX4_foresee 6 = .ok (.iconst 1, 1) := by decide +kernel
theorem dX4_foresee_7 : decode cX4_foresee 7 = .ok (.sipush 150, 3) := by decide +kernel
theorem dX4_foresee_10 : decode cX4_foresee 10 = .ok (.invokestatic 41, 3) := by decide +kernel
theorem dX4_foresee_13 : decode cX4_foresee 13 = .ok (.ifCond .ne 9, 3) := by decide +kernel
theorem dX4_foresee_16 : decode cX4_foresee 16 = .ok (.aload_n 0, 1) := by decide +kernel
theorem dX4_foresee_17 : decode cX4_foresee 17 = .ok (.iconst 1, 1) := by decide +kernel
theorem dX4_foresee_18 : decode cX4_foresee 18 = .ok (.invokevirtual 49, 3) := by decide +kernel
theorem dX4_foresee_21 : decode cX4_foresee 21 = .ok (.ireturn, 1) := by decide +kernel
theorem dX4_foresee_22 : decode cX4_foresee 22 = .ok (.iload_n 2, 1) := by decide +kernel
theorem dX4_foresee_23 : decode cX4_foresee 23 = .ok (.iconst 0, 1) := by decide +kernel
theorem dX4_foresee_24 : decode cX4_foresee 24 = .ok (.iconst 3, 1) := by decide +kernel
theorem dX4_foresee_25 : decode cX4_foresee 25 = .ok (.invokestatic 41, 3) := by decide +kernel
theorem dX4_foresee_28 : decode cX4_foresee 28 = .ok (.ifCond .ne 9, 3) := by decide +kernel
theorem dX4_foresee_31 : decode cX4_foresee 31 = .ok (.aload_n 0, 1) := by decide +kernel
theorem dX4_foresee_32 : decode cX4_foresee 32 = .ok (.iconst 2, 1) := by decide +kernel
theorem dX4_foresee_33 : decode cX4_foresee 33 = .ok (.invokevirtual 49, 3) := by decide +kernel
theorem dX4_foresee_36 : decode cX4_foresee 36 = .ok (.ireturn, 1) := by decide +kernel
theorem dX4_foresee_37 : decode cX4_foresee 37 = .ok (.aload_n 0, 1) := by decide +kernel
theorem dX4_foresee_38 : decode cX4_foresee 38 = .ok (.getfield 32, 3) := by decide +kernel
theorem dX4_foresee_41 : decode cX4_foresee 41 = .ok (.aload_n 0, 1) := by decide +kernel
theorem dX4_foresee_42 : decode cX4_foresee 42 = .ok (.getfield 28, 3) := by decide +kernel
theorem dX4_foresee_45 : decode cX4_foresee 45 = .ok (.invokevirtual 125, 3) := by decide +kernel
theorem dX4_foresee_48 : decode cX4_foresee 48 = .ok (.aload_n 0, 1) := by decide +kernel
theorem dX4_foresee_49 : decode cX4_foresee 49 = .ok (.iload_n 1, 1) := by decide +kernel
theorem dX4_foresee_50 : decode cX4_foresee 50 = .ok (.invokevirtual 129, 3) := by decide +kernel
theorem dX4_foresee_53 : decode cX4_foresee 53 = .ok (.iconst 4, 1) := by decide +kernel
theorem dX4_foresee_54 : decode cX4_foresee 54 = .ok (.newarray .int, 2) := by decide +kernel
theorem dX4_foresee_56 : decode cX4_foresee 56 = .ok (.dup, 1) := by decide +kernel
theorem dX4_foresee_57 : decode cX4_foresee 57 = .ok (.iconst 0, 1) := by decide +kernel
theorem dX4_foresee_58 : decode cX4_foresee 58 = .ok (.aload_n 0, 1) := by decide +kernel
theorem dX4_foresee_59 : decode cX4_foresee 59 = .ok (.getfield 32, 3) := by decide +kernel
theorem dX4_foresee_62 : decode cX4_foresee 62 = .ok (.getfield 100, 3) := by decide +kernel
theorem dX4_foresee_65 : decode cX4_foresee 65 = .ok (.aload_n 0, 1) := by decide +kernel
theorem dX4_foresee_66 : decode cX4_foresee 66 = .ok (.getfield 28, 3) := by decide +kernel
theorem dX4_foresee_69 : decode cX4_foresee 69 = .ok (.getfield 100, 3) := by decide +kernel
theorem dX4_foresee_72 : decode cX4_foresee 72 = .ok (.isub, 1) := by decide +kernel
theorem dX4_foresee_73 : decode cX4_foresee 73 = .ok (.iastore, 1) := by decide +kernel
theorem dX4_foresee_74 : decode cX4_foresee 74 = .ok (.dup, 1) := by decide +kernel
theorem dX4_foresee_75 : decode cX4_foresee 75 = .ok (.iconst 1, 1) := by decide +kernel
theorem dX4_foresee_76 : decode cX4_foresee 76 = .ok (.aload_n 0, 1) := by decide +kernel
theorem dX4_foresee_77 : decode cX4_foresee 77 = .ok (.getfield 32, 3) := by decide +kernel
theorem dX4_foresee_80 : decode cX4_foresee 80 = .ok (.getfield 113, 3) := by decide +kernel
theorem dX4_foresee_83 : decode cX4_foresee 83 = .ok (.aload_n 0, 1) := by decide +kernel
theorem dX4_foresee_84 : decode cX4_foresee 84 = .ok (.getfield 28, 3) := by decide +kernel
theorem dX4_foresee_87 : decode cX4_foresee 87 = .ok (.getfield 113, 3) := by decide +kernel
theorem dX4_foresee_90 : decode cX4_foresee 90 = .ok (.isub, 1) := by decide +kernel
theorem dX4_foresee_91 : decode cX4_foresee 91 = .ok (.iastore, 1) := by decide +kernel
theorem dX4_foresee_92 : decode cX4_foresee 92 = .ok (.dup, 1) := by decide +kernel
theorem dX4_foresee_93 : decode cX4_foresee 93 = .ok (.iconst 2, 1) := by decide +kernel
theorem dX4_foresee_94 : decode cX4_foresee 94 = .ok (.aload_n 0, 1) := by decide +kernel
theorem dX4_foresee_95 : decode cX4_foresee 95 = .ok (.getfield 32, 3) := by decide +kernel
theorem dX4_foresee_98 : decode cX4_foresee 98 = .ok (.getfield 116, 3) := by decide +kernel
theorem dX4_foresee_101 : decode cX4_foresee 101 = .ok (.aload_n 0, 1) := by decide +kernel
theorem dX4_foresee_102 : decode cX4_foresee 102 = .ok (.getfield 28, 3) := by decide +kernel
theorem dX4_foresee_105 : decode cX4_foresee 105 = .ok (.getfield 116, 3) := by decide +kernel
theorem dX4_foresee_108 : decode cX4_foresee 108 = .ok (.isub, 1) := by decide +kernel
theorem dX4_foresee_109 : decode cX4_foresee 109 = .ok (.iastore, 1) := by decide +kernel
theorem dX4_foresee_110 : decode cX4_foresee 110 = .ok (.dup, 1) := by decide +kernel
theorem dX4_foresee_111 : decode cX4_foresee 111 = .ok (.iconst 3, 1) := by decide +kernel
theorem dX4_foresee_112 : decode cX4_foresee 112 = .ok (.aload_n 0, 1) := by decide +kernel
theorem dX4_foresee_113 : decode cX4_foresee 113 = .ok (.getfield 32, 3) := by decide +kernel
theorem dX4_foresee_116 : decode cX4_foresee 116 = .ok (.invokevirtual 109, 3) := by decide +kernel
theorem dX4_foresee_119 : decode cX4_foresee 119 = .ok (.iastore, 1) := by decide +kernel
theorem dX4_foresee_120 : decode cX4_foresee 120 = .ok (.astore_n 3, 1) := by decide +kernel
theorem dX4_foresee_121 : decode cX4_foresee 121 = .ok (.aload_n 3, 1) := by decide +kernel
theorem dX4_foresee_122 : decode cX4_foresee 122 = .ok (.iload_n 2, 1) := by decide +kernel
theorem dX4_foresee_123 : decode cX4_foresee 123 = .ok (.iaload, 1) := by decide +kernel
theorem dX4_foresee_124 : decode cX4_foresee 124 = .ok (.ireturn, 1) := by decide +kernel
set_option maxRecDepth 20000 in
theorem ggX4_advise_X4_isIn : GoodIn wsX4_advise wsX4_isIn := goodIn_r _ [8] (by decide +kernel) (by decide +kernel)
set_option maxRecDepth 20000 in
theorem gX4_advise_X4_isIn : GoodIn wsX4_advise (va_wsS RX4 41 yX4_isIn wsX4_isIn) := goodIn_app (goodIn_of _ (by decide +kernel)) ggX4_advise_X4_isIn
set_option maxRecDepth 20000 in
theorem ggX4_advise_X4_no : GoodIn wsX4_advise wsX4_no := goodIn_r _ [12, 1, 73, 74, 75, 76, 77, 78, 79, 80, 81] (by decide +kernel) (by decide +kernel)
set_option maxRecDepth 20000 in
theorem gX4_advise_X4_no : GoodIn wsX4_advise (wsV RX4 49 RX4 yX4_no wsX4_no) := goodIn_app (goodIn_of _ (by decide +kernel)) ggX4_advise_X4_no
set_option maxRecDepth 20000 in
theorem ggX4_advise_X3_become : GoodIn wsX4_advise wsX3_become := goodIn_r _ [17, 18, 19, 20, 21, 22, 23, 24, 25, 26, 27, 28, 29, 30, 16, 31, 32, 33, 34, 35, 82, 83, 84, 85, 86, 87, 88, 89, 90, 91, 92, 93] (by decide +kernel) (by decide +kernel)
set_option maxRecDepth 20000 in
theorem gX4_advise_X3_become : GoodIn wsX4_advise (wsV RX4 125 RX3 yX3_become wsX3_become) := goodIn_app (goodIn_of _ (by decide +kernel)) ggX4_advise_X3_become
set_option maxRecDepth 20000 in
theorem ggX4_advise_X4_run : GoodIn wsX4_advise wsX4_run := goodIn_r _ [39, 2, 40, 41, 42, 16, 43, 22, 23, 44, 45, 46, 47, 48, 49, 18, 26, 50, 51, 52, 24, 53, 54, 55, 56, 25, 21, 19, 20, 27, 57, 58, 59, 60, 61, 62, 63, 64, 65, 66, 67, 73, 74, 75, 76, 77, 78, 79, 80, 81, 82, 83, 84, 85, 86, 87, 88, 89, 90, 91, 92, 93] (by decide +kernel) (by decide +kernel)
set_option maxRecDepth 20000 in
theorem gX4_advise_X4_run : GoodIn wsX4_advise (wsV RX4 129 RX4 yX4_run wsX4_run) := goodIn_app (goodIn_of _ (by decide +kernel)) ggX4_advise_X4_run
set_option maxRecDepth 20000 in
theorem ggX4_advise_X4_needed : GoodIn wsX4_advise wsX4_needed := goodIn_r _ [71, 72, 5, 6, 7, 8, 73, 74, 75, 76, 77, 78, 79, 80, 81] (by decide +kernel) (by decide +kernel)
set_option maxRecDepth 20000 in
theorem gX4_advise_X4_needed : GoodIn wsX4_advise (wsV RX4 122 RX4 yX4_needed wsX4_needed) := goodIn_app (goodIn_of _ (by decide +kernel)) ggX4_advise_X4_needed
theorem dX4_advise_0 : decode cX4_advise 0 = .ok (.aload_n 0, 1) := by decide +kernel
theorem dX4_advise_1 : decode cX4_advise 1 = .ok (.iconst 0, 1) := by decide +kernel
theorem dX4_advise_2 : decode cX4_advise 2 = .ok (.putfield 35, 3) := by decide +kernel
theorem dX4_advise_5 : decode cX4_advise 5 = .ok (.iload_n 1, 1) := by decide +kernel
theorem dX4_advise_6 : decode cX4_advise 6 = .ok (.iconst 0, 1) := by decide +kernel
theorem dX4_advise_7 : decode cX4_advise 7 = .ok (.bipush 120, 2) := by decide +kernel
theorem dX4_advise_9 : decode cX4_advise 9 = .ok (.invokestatic 41, 3) := by decide +kernel
theorem dX4_advise_12 : decode cX4_advise 12 = .ok (.ifCond .eq 13, 3) := by decide +kernel
theorem dX4_advise_15 : decode cX4_advise 15 = .ok (.iload_n 2, 1) := by decide +kernel
theorem dX4_advise_16 : decode cX4_advise 16 = .ok (.iconst 1, 1) := by decide +kernel
theorem dX4_advise_17 : decode cX4_advise 17 = .ok (.bipush 80, 2) := by decide +kernel
theorem dX4_advise_19 : decode cX4_advise 19 = .ok (.invokestatic 41, 3) := by decide +kernel
theorem dX4_advise_22 : decode cX4_advise 22 = .ok (.ifCond .ne 9, 3) := by decide +kernel
theorem dX4_advise_25 : decode cX4_advise 25 = .ok (.aload_n 0, 1) := by decide +kernel
theorem dX4_advise_26 : decode cX4_advise 26 = .ok (.iconst 1, 1) := by decide +kernel
theorem dX4_advise_27 : decode cX4_advise 27 = .ok (.invokevirtual 49, 3) := by decide +kernel
theorem dX4_advise_30 : decode cX4_advise 30 = .ok (.ireturn, 1) := by decide +kernel
theorem dX4_advise_31 : decode cX4_advise 31 = .ok (.aload_n 0, 1) := by decide +kernel
theorem dX4_advise_32 : decode cX4_advise 32 = .ok (.getfield 32, 3) := by decide +kernel
theorem dX4_advise_35 : decode cX4_advise 35 = .ok (.aload_n 0, 1) := by decide +kernel
theorem dX4_advise_36 : decode cX4_advise 36 = .ok (.getfield 28, 3) := by decide +kernel
theorem dX4_advise_39 : decode cX4_advise 39 = .ok (.invokevirtual 125, 3) := by decide +kernel
theorem dX4_advise_42 : decode cX4_advise 42 = .ok (.aload_n 0, 1) := by decide +kernel
theorem dX4_advise_43 : decode cX4_advise 43 = .ok (.iload_n 2, 1) := by decide +kernel
theorem dX4_advise_44 : decode cX4_advise 44 = .ok (.invokevirtual 129, 3) := by decide +kernel
theorem dX4_advise_47 : decode cX4_advise 47 = .ok (.aload_n 0, 1) := by decide +kernel
theorem dX4_advise_48 : decode cX4_advise 48 = .ok (.getfield 32, 3) := by decide +kernel
theorem dX4_advise_51 : decode cX4_advise 51 = .ok (.getfield 113, 3) := by decide +kernel
theorem dX4_advise_54 : decode cX4_advise 54 = .ok (.istore_n 3, 1) := by decide +kernel
theorem dX4_advise_55 : decode cX4_advise 55 = .ok (.iconst (-1), 1) := by decide +kernel
theorem dX4_advise_56 : decode cX4_advise 56 = .ok (.istore 4, 2) := by decide +kernel
theorem dX4_advise_58 : decode cX4_advise 58 = .ok (.iconst 0, 1) := by decide +kernel
theorem dX4_advise_59 : decode cX4_advise 59 = .ok (.istore 5, 2) := by decide +kernel
theorem dX4_advise_61 : decode cX4_advise 61 = .ok (.iload 5, 2) := by decide +kernel
theorem dX4_advise_63 : decode cX4_advise 63 = .ok (.aload_n 0, 1) := by decide +kernel
theorem dX4_advise_64 : decode cX4_advise 64 = .ok (.getfield 38, 3) := by decide +kernel
theorem dX4_advise_67 : decode cX4_advise 67 = .ok (.if_icmp .ge 96, 3) := by decide +kernel
theorem dX4_advise_70 : decode cX4_advise 70 = .ok (.aload_n 0, 1) := by decide +kernel
theorem dX4_advise_71 : decode cX4_advise 71 = .ok (.getfield 28, 3) := by decide +kernel
theorem dX4_advise_74 : decode cX4_advise 74 = .ok (.getfield 59, 3) := by decide +kernel
theorem dX4_advise_77 : decode cX4_advise 77 = .ok (.iload 5, 2) := by decide +kernel
theorem dX4_advise_79 : decode cX4_advise 79 = .ok (.iaload, 1) := by decide +kernel
theorem dX4_advise_80 : decode cX4_advise 80 = .ok (.iconst 1, 1) := by decide +kernel
theorem dX4_advise_81 : decode cX4_advise 81 = .ok (.if_icmp .eq 76, 3) := by decide +kernel
theorem dX4_advise_84 : decode cX4_advise 84 = .ok (.aload_n 0, 1) := by decide +kernel
theorem dX4_advise_85 : decode cX4_advise 85 = .ok (.iload 5, 2) := by decide +kernel
theorem dX4_advise_87 : decode cX4_advise 87 = .ok (.iload_n 1, 1) := by decide +kernel
theorem dX4_advise_88 : decode cX4_advise 88 = .ok (.invokevirtual 122, 3) := by decide +kernel
theorem dX4_advise_91 : decode cX4_advise 91 = .ok (.iconst (-1), 1) := by decide +kernel
theorem dX4_advise_92 : decode cX4_advise 92 = .ok (.if_icmp .ne 6, 3) := by decide +kernel
theorem dX4_advise_95 : decode cX4_advise 95 = .ok (.goto 62, 3) := by decide +kernel
theorem dX4_advise_98 : decode cX4_advise 98 = .ok (.aload_n 0, 1) := by decide +kernel
theorem dX4_advise_99 : decode cX4_advise 99 = .ok (.getfield 32, 3) := by decide +kernel
theorem dX4_advise_102 : decode cX4_advise 102 = .ok (.aload_n 0, 1) := by decide +kernel
theorem dX4_advise_103 : decode cX4_advise 103 = .ok (.getfield 28, 3) := by decide +kernel
theorem dX4_advise_106 : decode cX4_advise 106 = .ok (.invokevirtual 125, 3) := by decide +kernel
theorem dX4_advise_109 : decode cX4_advise 109 = .ok (.aload_n 0, 1) := by decide +kernel
theorem dX4_advise_110 : decode cX4_advise 110 = .ok (.getfield 32, 3) := by decide +kernel
theorem dX4_advise_113 : decode cX4_advise 113 = .ok (.getfield 53, 3) := by decide +kernel
theorem dX4_advise_116 : decode cX4_advise 116 = .ok (.iload 5, 2) := by decide +kernel
theorem dX4_advise_118 : decode cX4_advise 118 = .ok (.aload_n 0, 1) := by decide +kernel
theorem dX4_advise_119 : decode cX4_advise 119 = .ok (.iload 5, 2) := by decide +kernel
theorem dX4_advise_121 : decode cX4_advise 121 = .ok (.iload_n 1, 1) := by decide +kernel
theorem dX4_advise_122 : decode cX4_advise 122 = .ok (.invokevirtual 122, 3) := by decide +kernel
theorem dX4_advise_125 : decode cX4_advise 125 = .ok (.iastore, 1) := by decide +kernel
theorem dX4_advise_126 : decode cX4_advise 126 = .ok (.aload_n 0, 1) := by decide +kernel
theorem dX4_advise_127 : decode cX4_advise 127 = .ok (.iload_n 2, 1) := by decide +kernel
theorem dX4_advise_128 : decode cX4_advise 128 = .ok (.invokevirtual 129, 3) := by decide +kernel
theorem dX4_advise_131 : decode cX4_advise 131 = .ok (.aload_n 0, 1) := by decide +kernel
theorem dX4_advise_132 : decode cX4_advise 132 = .ok (.getfield 32, 3) := by decide +kernel
theorem dX4_advise_135 : decode cX4_advise 135 = .ok (.getfield 113, 3) := by decide +kernel
theorem dX4_advise_138 : decode cX4_advise 138 = .ok (.iload_n 3, 1) := by decide +kernel
theorem dX4_advise_139 : decode cX4_advise 139 = .ok (.if_icmp .gt 6, 3) := by decide +kernel
theorem dX4_advise_142 : decode cX4_advise 142 = .ok (.goto 15, 3) := by decide +kernel
theorem dX4_advise_145 : decode cX4_advise 145 = .ok (.aload_n 0, 1) := by decide +kernel
theorem dX4_advise_146 : decode cX4_advise 146 = .ok (.getfield 32, 3) := by decide +kernel
theorem dX4_advise_149 : decode cX4_advise 149 = .ok (.getfield 113, 3) := by decide +kernel
theorem dX4_advise_152 : decode cX4_advise 152 = .ok (.istore_n 3, 1) := by decide +kernel
theorem dX4_advise_153 : decode cX4_advise 153 = .ok (.iload 5, 2) := by decide +kernel
theorem dX4_advise_155 : decode cX4_advise 155 = .ok (.istore 4, 2) := by decide +kernel
theorem dX4_advise_157 : decode cX4_advise 157 = .ok (.iinc 5 1, 3) := by decide +kernel
theorem dX4_advise_160 : decode cX4_advise 160 = .ok (.goto (-99), 3) := by decide +kernel
theorem dX4_advise_163 : decode cX4_advise 163 = .ok (.iload 4, 2) := by decide +kernel
theorem dX4_advise_165 : decode cX4_advise 165 = .ok (.ireturn, 1) := by decide +kernel
set_option maxRecDepth 20000 in
theorem ggX4_missedWith_X3_become : GoodIn wsX4_missedWith wsX3_become := goodIn_r _ [7, 8, 9, 10, 11, 12, 13, 14, 15, 16, 17, 18, 19, 20, 6, 21, 22, 23, 24, 25, 68, 69, 70, 71, 72, 73, 74, 75, 76, 77, 78, 79] (by decide +kernel) (by decide +kernel)
set_option maxRecDepth 20000 in
theorem gX4_missedWith_X3_become : GoodIn wsX4_missedWith (wsV RX4 125 RX3 yX3_become wsX3_become) := goodIn_app (goodIn_of _ (by decide +kernel)) ggX4_missedWith_X3_become
set_option maxRecDepth 20000 in
theorem ggX4_missedWith_X4_run : GoodIn wsX4_missedWith wsX4_run := goodIn_r _ [30, 1, 31, 32, 33, 6, 34, 12, 13, 35, 36, 37, 38, 39, 40, 8, 16, 41, 42, 43, 14, 44, 45, 46, 47, 15, 11, 9, 10, 17, 48, 49, 50, 51, 52, 53, 54, 55, 56, 57, 58, 59, 60, 61, 62, 63, 64, 65, 66, 67, 68, 69, 70, 71, 72, 73, 74, 75, 76, 77, 78, 79] (by decide +kernel) (by decide +kernel)
set_option maxRecDepth 20000 in
theorem gX4_missedWith_X4_run : GoodIn wsX4_missedWith (wsV RX4 129 RX4 yX4_run wsX4_run) := goodIn_app (goodIn_of _ (by decide +kernel)) ggX4_missedWith_X4_run
theorem dX4_missedWith_0 : decode cX4_missedWith 0 = .ok (.aload_n 0, 1) := by decide +kernel
theorem dX4_missedWith_1 : decode cX4_missedWith 1 = .ok (.getfield 32, 3) := by decide +kernel
theorem dX4_missedWith_4 : decode cX4_missedWith 4 = .ok (.aload_n 0, 1) := by decide +kernel
theorem dX4_missedWith_5 : decode cX4_missedWith 5 = .ok (.getfield 28, 3) := by decide +kernel
theorem dX4_missedWith_8 : decode cX4_missedWith 8 = .ok (.invokevirtual 125, 3) := by decide +kernel
theorem dX4_missedWith_11 : decode cX4_missedWith 11 = .ok (.aload_n 0, 1) := by decide +kernel
theorem dX4_missedWith_12 : decode cX4_missedWith 12 = .ok (.getfield 32, 3) := by decide +kernel
theorem dX4_missedWith_15 : decode cX4_missedWith 15 = .ok (.getfield 65, 3) := by decide +kernel
theorem dX4_missedWith_18 : decode cX4_missedWith 18 = .ok (.iload_n 1, 1) := by decide +kernel
theorem dX4_missedWith_19 : decode cX4_missedWith 19 = .ok (.iload_n 2, 1) := by decide +kernel
theorem dX4_missedWith_20 : decode cX4_missedWith 20 = .ok (.iastore, 1) := by decide +kernel
theorem dX4_missedWith_21 : decode cX4_missedWith 21 = .ok (.aload_n 0, 1) := by decide +kernel
theorem dX4_missedWith_22 : decode cX4_missedWith 22 = .ok (.iload_n 3, 1) := by decide +kernel
theorem dX4_missedWith_23 : decode cX4_missedWith 23 = .ok (.invokevirtual 129, 3) := by decide +kernel
theorem dX4_missedWith_26 : decode cX4_missedWith 26 = .ok (.aload_n 0, 1) := by decide +kernel
theorem dX4_missedWith_27 : decode cX4_missedWith 27 = .ok (.getfield 32, 3) := by decide +kernel
theorem dX4_missedWith_30 : decode cX4_missedWith 30 = .ok (.getfield 116, 3) := by decide +kernel
theorem dX4_missedWith_33 : decode cX4_missedWith 33 = .ok (.ireturn, 1) := by decide +kernel
set_option maxRecDepth 20000 in
theorem ggX4_wants_X4_isRow : GoodIn wsX4_wants wsX4_isRow := goodIn_r _ [5, 6, 7, 4, 8] (by decide +kernel) (by decide +kernel)
set_option maxRecDepth 20000 in
theorem gX4_wants_X4_isRow : GoodIn wsX4_wants (va_wsS RX4 45 yX4_isRow wsX4_isRow) := goodIn_app (goodIn_of _ (by decide +kernel)) ggX4_wants_X4_isRow
set_option maxRecDepth 20000 in
theorem ggX4_wants_X4_no : GoodIn wsX4_wants wsX4_no := goodIn_r _ [12, 1, 74, 75, 76, 77, 78, 79, 80, 81, 82] (by decide +kernel) (by decide +kernel)
set_option maxRecDepth 20000 in
theorem gX4_wants_X4_no : GoodIn wsX4_wants (wsV RX4 49 RX4 yX4_no wsX4_no) := goodIn_app (goodIn_of _ (by decide +kernel)) ggX4_wants_X4_no
set_option maxRecDepth 20000 in
theorem ggX4_wants_X4_isIn : GoodIn wsX4_wants wsX4_isIn := goodIn_r _ [8] (by decide +kernel) (by decide +kernel)
set_option maxRecDepth 20000 in
theorem gX4_wants_X4_isIn : GoodIn wsX4_wants (va_wsS RX4 41 yX4_isIn wsX4_isIn) := goodIn_app (goodIn_of _ (by decide +kernel)) ggX4_wants_X4_isIn
set_option maxRecDepth 20000 in
theorem ggX4_wants_X4_missedWith : GoodIn wsX4_wants wsX4_missedWith := goodIn_r _ [16, 17, 18, 19, 20, 21, 22, 23, 24, 25, 26, 27, 28, 29, 30, 31, 32, 33, 34, 35, 36, 37, 38, 39, 40, 41, 42, 43, 44, 4, 45, 46, 47, 48, 49, 50, 51, 52, 53, 54, 55, 56, 57, 58, 59, 60, 61, 62, 63, 64, 65, 66, 67, 68, 69, 70, 71, 72, 73, 74, 75, 76, 77, 78, 79, 80, 81, 82, 83, 84, 85, 86, 87, 88, 89, 90, 91, 92, 93, 94] (by decide +kernel) (by decide +kernel)
set_option maxRecDepth 20000 in
theorem gX4_wants_X4_missedWith : GoodIn wsX4_wants (wsV RX4 133 RX4 yX4_missedWith wsX4_missedWith) := goodIn_app (goodIn_of _ (by decide +kernel)) ggX4_wants_X4_missedWith
theorem dX4_wants_0 : decode cX4_wants 0 = .ok (.aload_n 0, 1) := by decide +kernel
theorem dX4_wants_1 : decode cX4_wants 1 = .ok (.iconst 0, 1) := by decide +kernel
theorem dX4_wants_2 : decode cX4_wants 2 = .ok (.putfield 35, 3) := by decide +kernel
theorem dX4_wants_5 : decode cX4_wants 5 = .ok (.iload_n 1, 1) := by decide +kernel
theorem dX4_wants_6 : decode cX4_wants 6 = .ok (.invokestatic 45, 3) := by decide +kernel
theorem dX4_wants_9 : decode cX4_wants 9 = .ok (.ifCond .ne 9, 3) := by decide +kernel
theorem dX4_wants_12 : decode cX4_wants 12 = .ok (.aload_n 0, 1) := by decide +kernel
theorem dX4_wants_13 : decode cX4_wants 13 = .ok (.iconst 1, 1) := by decide +kernel
theorem dX4_wants_14 : decode cX4_wants 14 = .ok (.invokevirtual 49, 3) := by decide +kernel
theorem dX4_wants_17 : decode cX4_wants 17 = .ok (.ireturn, 1) := by decide +kernel
theorem dX4_wants_18 : decode cX4_wants 18 = .ok (.iload_n 2, 1) := by decide +kernel
theorem dX4_wants_19 : decode cX4_wants 19 = .ok (.iconst 1, 1) := by decide +kernel
theorem dX4_wants_20 : decode cX4_wants 20 = .ok (.bipush 80, 2) := by decide +kernel
theorem dX4_wants_22 : decode cX4_wants 22 = .ok (.invokestatic 41, 3) := by decide +kernel
theorem dX4_wants_25 : decode cX4_wants 25 = .ok (.ifCond .ne 9, 3) := by decide +kernel
theorem dX4_wants_28 : decode cX4_wants 28 = .ok (.aload_n 0, 1) := by decide +kernel
theorem dX4_wants_29 : decode cX4_wants 29 = .ok (.iconst 2, 1) := by decide +kernel
theorem dX4_wants_30 : decode cX4_wants 30 = .ok (.invokevirtual 49, 3) := by decide +kernel
theorem dX4_wants_33 : decode cX4_wants 33 = .ok (.ireturn, 1) := by decide +kernel
theorem dX4_wants_34 : decode cX4_wants 34 = .ok (.aload_n 0, 1) := by decide +kernel
theorem dX4_wants_35 : decode cX4_wants 35 = .ok (.iload_n 1, 1) := by decide +kernel
theorem dX4_wants_36 : decode cX4_wants 36 = .ok (.bipush 9, 2) := by decide +kernel
theorem dX4_wants_38 : decode cX4_wants 38 = .ok (.iload_n 2, 1) := by decide +kernel
theorem dX4_wants_39 : decode cX4_wants 39 = .ok (.invokevirtual 133, 3) := by decide +kernel
theorem dX4_wants_42 : decode cX4_wants 42 = .ok (.istore_n 3, 1) := by decide +kernel
theorem dX4_wants_43 : decode cX4_wants 43 = .ok (.iconst 0, 1) := by decide +kernel
theorem dX4_wants_44 : decode cX4_wants 44 = .ok (.istore 4, 2) := by decide +kernel
theorem dX4_wants_46 : decode cX4_wants 46 = .ok (.aload_n 0, 1) := by decide +kernel
theorem dX4_wants_47 : decode cX4_wants 47 = .ok (.iload_n 1, 1) := by decide +kernel
theorem dX4_wants_48 : decode cX4_wants 48 = .ok (.iload 4, 2) := by decide +kernel
theorem dX4_wants_50 : decode cX4_wants 50 = .ok (.iload_n 2, 1) := by decide +kernel
theorem dX4_wants_51 : decode cX4_wants 51 = .ok (.invokevirtual 133, 3) := by decide +kernel
theorem dX4_wants_54 : decode cX4_wants 54 = .ok (.iload_n 3, 1) := by decide +kernel
theorem dX4_wants_55 : decode cX4_wants 55 = .ok (.if_icmp .le 9, 3) := by decide +kernel
theorem dX4_wants_58 : decode cX4_wants 58 = .ok (.iinc 4 1, 3) := by decide +kernel
theorem dX4_wants_61 : decode cX4_wants 61 = .ok (.goto (-15), 3) := by decide +kernel
theorem dX4_wants_64 : decode cX4_wants 64 = .ok (.iload 4, 2) := by decide +kernel
theorem dX4_wants_66 : decode cX4_wants 66 = .ok (.ireturn, 1) := by decide +kernel
theorem dX4_mean_0 : decode cX4_mean 0 = .ok (.aload_n 0, 1) := by decide +kernel
theorem dX4_mean_1 : decode cX4_mean 1 = .ok (.iconst 0, 1) := by decide +kernel
theorem dX4_mean_2 : decode cX4_mean 2 = .ok (.putfield 35, 3) := by decide +kernel
theorem dX4_mean_5 : decode cX4_mean 5 = .ok (.aload_n 0, 1) := by decide +kernel
theorem dX4_mean_6 : decode cX4_mean 6 = .ok (.getfield 28, 3) := by decide +kernel
theorem dX4_mean_9 : decode cX4_mean 9 = .ok (.getfield 100, 3) := by decide +kernel
theorem dX4_mean_12 : decode cX4_mean 12 = .ok (.aload_n 0, 1) := by decide +kernel
theorem dX4_mean_13 : decode cX4_mean 13 = .ok (.getfield 28, 3) := by decide +kernel
theorem dX4_mean_16 : decode cX4_mean 16 = .ok (.getfield 116, 3) := by decide +kernel
theorem dX4_mean_19 : decode cX4_mean 19 = .ok (.iadd, 1) := by decide +kernel
theorem dX4_mean_20 : decode cX4_mean 20 = .ok (.istore_n 1, 1) := by decide +kernel
theorem dX4_mean_21 : decode cX4_mean 21 = .ok (.iload_n 1, 1) := by decide +kernel
theorem dX4_mean_22 : decode cX4_mean 22 = .ok (.ifCond .ne 7, 3) := by decide +kernel
theorem dX4_mean_25 : decode cX4_mean 25 = .ok (.dconst 0, 1) := by decide +kernel
theorem dX4_mean_26 : decode cX4_mean 26 = .ok (.goto 14, 3) := by decide +kernel
theorem dX4_mean_29 : decode cX4_mean 29 = .ok (.aload_n 0, 1) := by decide +kernel
theorem dX4_mean_30 : decode cX4_mean 30 = .ok (.getfield 28, 3) := by decide +kernel
theorem dX4_mean_33 : decode cX4_mean 33 = .ok (.getfield 113, 3) := by decide +kernel
theorem dX4_mean_36 : decode cX4_mean 36 = .ok (.i2d, 1) := by decide +kernel
theorem dX4_mean_37 : decode cX4_mean 37 = .ok (.iload_n 1, 1) := by decide +kernel
theorem dX4_mean_38 : decode cX4_mean 38 = .ok (.i2d, 1) := by decide +kernel
theorem dX4_mean_39 : decode cX4_mean 39 = .ok (.ddiv, 1) := by decide +kernel
theorem dX4_mean_40 : decode cX4_mean 40 = .ok (.dreturn, 1) := by decide +kernel
set_option maxRecDepth 20000 in
theorem ggX4_digest_X4_counted : GoodIn wsX4_digest wsX4_counted := goodIn_r _ [12, 13, 5, 14, 6, 15, 16, 17, 11, 18, 19, 20, 21, 22, 23, 24, 25, 26, 27, 28, 29, 30, 31, 32, 33, 34, 35, 36, 37, 38, 39, 40, 41, 42, 54, 55, 56, 57, 58, 59, 60, 61, 62, 63, 64, 65, 66, 67, 68, 69, 70, 71, 72, 73, 74] (by decide +kernel) (by decide +kernel)
set_option maxRecDepth 20000 in
theorem gX4_digest_X4_counted : GoodIn wsX4_digest (wsV RX4 119 RX4 yX4_counted wsX4_counted) := goodIn_app (goodIn_of _ (by decide +kernel)) ggX4_digest_X4_counted
set_option maxRecDepth 20000 in
theorem ggX4_digest_X4_glassTold : GoodIn wsX4_digest wsX4_glassTold := goodIn_r _ [46, 14, 47, 48, 13, 49, 30, 31, 22, 32, 33, 34, 35, 36, 26, 37, 15, 16, 17, 11, 18, 5, 19, 20, 21, 23, 24, 25, 27, 28, 29, 54, 55, 56, 57, 58, 59, 60, 61, 62, 63, 64, 65, 66, 67, 68, 69, 70, 71, 72, 73, 74] (by decide +kernel) (by decide +kernel)
set_option maxRecDepth 20000 in
theorem gX4_digest_X4_glassTold : GoodIn wsX4_digest (wsV RX4 81 RX4 yX4_glassTold wsX4_glassTold) := goodIn_app (goodIn_of _ (by decide +kernel)) ggX4_digest_X4_glassTold
set_option maxRecDepth 20000 in
theorem ggX4_digest_X4_rowTold : GoodIn wsX4_digest wsX4_rowTold := goodIn_r _ [53, 5, 47, 13, 54, 55, 56, 57, 58, 59, 60, 61, 62, 63, 64, 65, 66, 67, 68, 69, 70, 71, 72, 73, 74] (by decide +kernel) (by decide +kernel)
set_option maxRecDepth 20000 in
theorem gX4_digest_X4_rowTold : GoodIn wsX4_digest (wsV RX4 88 RX4 yX4_rowTold wsX4_rowTold) := goodIn_app (goodIn_of _ (by decide +kernel)) ggX4_digest_X4_rowTold
theorem dX4_digest_0 : decode cX4_digest 0 = .ok (.aload_n 0, 1) := by decide +kernel
theorem dX4_digest_1 : decode cX4_digest 1 = .ok (.iconst 0, 1) := by decide +kernel
theorem dX4_digest_2 : decode cX4_digest 2 = .ok (.putfield 35, 3) := by decide +kernel
theorem dX4_digest_5 : decode cX4_digest 5 = .ok (.ldc2_w 137, 3) := by decide +kernel
theorem dX4_digest_8 : decode cX4_digest 8 = .ok (.lstore_n 1, 1) := by decide +kernel
theorem dX4_digest_9 : decode cX4_digest 9 = .ok (.iconst 0, 1) := by decide +kernel
theorem dX4_digest_10 : decode cX4_digest 10 = .ok (.istore_n 3, 1) := by decide +kernel
theorem dX4_digest_11 : decode cX4_digest 11 = .ok (.iload_n 3, 1) := by decide +kernel
theorem dX4_digest_12 : decode cX4_digest 12 = .ok (.bipush 8, 2) := by decide +kernel
theorem dX4_digest_14 : decode cX4_digest 14 = .ok (.if_icmp .gt 22, 3) := by decide +kernel
theorem dX4_digest_17 : decode cX4_digest 17 = .ok (.lload_n 1, 1) := by decide +kernel
theorem dX4_digest_18 : decode cX4_digest 18 = .ok (.ldc2_w 139, 3) := by decide +kernel
theorem dX4_digest_21 : decode cX4_digest 21 = .ok (.lmul, 1) := by decide +kernel
theorem dX4_digest_22 : decode cX4_digest 22 = .ok (.aload_n 0, 1) := by decide +kernel
theorem dX4_digest_23 : decode cX4_digest 23 = .ok (.iload_n 3, 1) := by decide +kernel
theorem dX4_digest_24 : decode cX4_digest 24 = .ok (.invokevirtual 119, 3) := by decide +kernel
theorem dX4_digest_27 : decode cX4_digest 27 = .ok (.i2l, 1) := by decide +kernel
theorem dX4_digest_28 : decode cX4_digest 28 = .ok (.ladd, 1) := by decide +kernel
theorem dX4_digest_29 : decode cX4_digest 29 = .ok (.lstore_n 1, 1) := by decide +kernel
theorem dX4_digest_30 : decode cX4_digest 30 = .ok (.iinc 3 1, 3) := by decide +kernel
theorem dX4_digest_33 : decode cX4_digest 33 = .ok (.goto (-22), 3) := by decide +kernel
theorem dX4_digest_36 : decode cX4_digest 36 = .ok (.lload_n 1, 1) := by decide +kernel
theorem dX4_digest_37 : decode cX4_digest 37 = .ok (.ldc2_w 139, 3) := by decide +kernel
theorem dX4_digest_40 : decode cX4_digest 40 = .ok (.lmul, 1) := by decide +kernel
theorem dX4_digest_41 : decode cX4_digest 41 = .ok (.aload_n 0, 1) := by decide +kernel
theorem dX4_digest_42 : decode cX4_digest 42 = .ok (.getfield 7, 3) := by decide +kernel
theorem dX4_digest_45 : decode cX4_digest 45 = .ok (.i2l, 1) := by decide +kernel
theorem dX4_digest_46 : decode cX4_digest 46 = .ok (.ladd, 1) := by decide +kernel
theorem dX4_digest_47 : decode cX4_digest 47 = .ok (.lstore_n 1, 1) := by decide +kernel
theorem dX4_digest_48 : decode cX4_digest 48 = .ok (.iconst 0, 1) := by decide +kernel
theorem dX4_digest_49 : decode cX4_digest 49 = .ok (.istore_n 3, 1) := by decide +kernel
theorem dX4_digest_50 : decode cX4_digest 50 = .ok (.iload_n 3, 1) := by decide +kernel
theorem dX4_digest_51 : decode cX4_digest 51 = .ok (.aload_n 0, 1) := by decide +kernel
theorem dX4_digest_52 : decode cX4_digest 52 = .ok (.getfield 38, 3) := by decide +kernel
theorem dX4_digest_55 : decode cX4_digest 55 = .ok (.if_icmp .ge 40, 3) := by decide +kernel
theorem dX4_digest_58 : decode cX4_digest 58 = .ok (.iconst 0, 1) := by decide +kernel
theorem dX4_digest_59 : decode cX4_digest 59 = .ok (.istore 4, 2) := by decide +kernel
theorem dX4_digest_61 : decode cX4_digest 61 = .ok (.iload 4, 2) := by decide +kernel
theorem dX4_digest_63 : decode cX4_digest 63 = .ok (.bipush 7, 2) := by decide +kernel
theorem dX4_digest_65 : decode cX4_digest 65 = .ok (.if_icmp .gt 24, 3) := by decide +kernel
theorem dX4_digest_68 : decode cX4_digest 68 = .ok (.lload_n 1, 1) := by decide +kernel
theorem dX4_digest_69 : decode cX4_digest 69 = .ok (.ldc2_w 139, 3) := by decide +kernel
theorem dX4_digest_72 : decode cX4_digest 72 = .ok (.lmul, 1) := by decide +kernel
theorem dX4_digest_73 : decode cX4_digest 73 = .ok (.aload_n 0, 1) := by decide +kernel
theorem dX4_digest_74 : decode cX4_digest 74 = .ok (.iload_n 3, 1) := by decide +kernel
theorem dX4_digest_75 : decode cX4_digest 75 = .ok (.iload 4, 2) := by decide +kernel
theorem dX4_digest_77 : decode cX4_digest 77 = .ok (.invokevirtual 81, 3) := by decide +kernel
theorem dX4_digest_80 : decode cX4_digest 80 = .ok (.i2l, 1) := by decide +kernel
theorem dX4_digest_81 : decode cX4_digest 81 = .ok (.ladd, 1) := by decide +kernel
theorem dX4_digest_82 : decode cX4_digest 82 = .ok (.lstore_n 1, 1) := by decide +kernel
theorem dX4_digest_83 : decode cX4_digest 83 = .ok (.iinc 4 1, 3) := by decide +kernel
theorem dX4_digest_86 : decode cX4_digest 86 = .ok (.goto (-25), 3) := by decide +kernel
theorem dX4_digest_89 : decode cX4_digest 89 = .ok (.iinc 3 1, 3) := by decide +kernel
theorem dX4_digest_92 : decode cX4_digest 92 = .ok (.goto (-42), 3) := by decide +kernel
theorem dX4_digest_95 : decode cX4_digest 95 = .ok (.iconst 0, 1) := by decide +kernel
theorem dX4_digest_96 : decode cX4_digest 96 = .ok (.istore_n 3, 1) := by decide +kernel
theorem dX4_digest_97 : decode cX4_digest 97 = .ok (.iload_n 3, 1) := by decide +kernel
theorem dX4_digest_98 : decode cX4_digest 98 = .ok (.iconst 4, 1) := by decide +kernel
theorem dX4_digest_99 : decode cX4_digest 99 = .ok (.if_icmp .ge 39, 3) := by decide +kernel
theorem dX4_digest_102 : decode cX4_digest 102 = .ok (.iconst 0, 1) := by decide +kernel
theorem dX4_digest_103 : decode cX4_digest 103 = .ok (.istore 4, 2) := by decide +kernel
theorem dX4_digest_105 : decode cX4_digest 105 = .ok (.iload 4, 2) := by decide +kernel
theorem dX4_digest_107 : decode cX4_digest 107 = .ok (.iconst 2, 1) := by decide +kernel
theorem dX4_digest_108 : decode cX4_digest 108 = .ok (.if_icmp .gt 24, 3) := by decide +kernel
theorem dX4_digest_111 : decode cX4_digest 111 = .ok (.lload_n 1, 1) := by decide +kernel
theorem dX4_digest_112 : decode cX4_digest 112 = .ok (.ldc2_w 139, 3) := by decide +kernel
theorem dX4_digest_115 : decode cX4_digest 115 = .ok (.lmul, 1) := by decide +kernel
theorem dX4_digest_116 : decode cX4_digest 116 = .ok (.aload_n 0, 1) := by decide +kernel
theorem dX4_digest_117 : decode cX4_digest 117 = .ok (.iload_n 3, 1) := by decide +kernel
theorem dX4_digest_118 : decode cX4_digest 118 = .ok (.iload 4, 2) := by decide +kernel
theorem dX4_digest_120 : decode cX4_digest 120 = .ok (.invokevirtual 88, 3) := by decide +kernel
theorem dX4_digest_123 : decode cX4_digest 123 = .ok (.i2l, 1) := by decide +kernel
theorem dX4_digest_124 : decode cX4_digest 124 = .ok (.ladd, 1) := by decide +kernel
theorem dX4_digest_125 : decode cX4_digest 125 = .ok (.lstore_n 1, 1) := by decide +kernel
theorem dX4_digest_126 : decode cX4_digest 126 = .ok (.iinc 4 1, 3) := by decide +kernel
theorem dX4_digest_129 : decode cX4_digest 129 = .ok (.goto (-24), 3) := by decide +kernel
theorem dX4_digest_132 : decode cX4_digest 132 = .ok (.iinc 3 1, 3) := by decide +kernel
theorem dX4_digest_135 : decode cX4_digest 135 = .ok (.goto (-38), 3) := by decide +kernel
theorem dX4_digest_138 : decode cX4_digest 138 = .ok (.iconst 0, 1) := by decide +kernel
theorem dX4_digest_139 : decode cX4_digest 139 = .ok (.istore_n 3, 1) := by decide +kernel
theorem dX4_digest_140 : decode cX4_digest 140 = .ok (.iload_n 3, 1) := by decide +kernel
theorem dX4_digest_141 : decode cX4_digest 141 = .ok (.iconst 3, 1) := by decide +kernel
theorem dX4_digest_142 : decode cX4_digest 142 = .ok (.aload_n 0, 1) := by decide +kernel
theorem dX4_digest_143 : decode cX4_digest 143 = .ok (.getfield 91, 3) := by decide +kernel
theorem dX4_digest_146 : decode cX4_digest 146 = .ok (.imul, 1) := by decide +kernel
theorem dX4_digest_147 : decode cX4_digest 147 = .ok (.if_icmp .ge 23, 3) := by decide +kernel
theorem dX4_digest_150 : decode cX4_digest 150 = .ok (.lload_n 1, 1) := by decide +kernel
theorem dX4_digest_151 : decode cX4_digest 151 = .ok (.ldc2_w 139, 3) := by decide +kernel
theorem dX4_digest_154 : decode cX4_digest 154 = .ok (.lmul, 1) := by decide +kernel
theorem dX4_digest_155 : decode cX4_digest 155 = .ok (.aload_n 0, 1) := by decide +kernel
theorem dX4_digest_156 : decode cX4_digest 156 = .ok (.getfield 13, 3) := by decide +kernel
theorem dX4_digest_159 : decode cX4_digest 159 = .ok (.iload_n 3, 1) := by decide +kernel
theorem dX4_digest_160 : decode cX4_digest 160 = .ok (.iaload, 1) := by decide +kernel
theorem dX4_digest_161 : decode cX4_digest 161 = .ok (.i2l, 1) := by decide +kernel
theorem dX4_digest_162 : decode cX4_digest 162 = .ok (.ladd, 1) := by decide +kernel
theorem dX4_digest_163 : decode cX4_digest 163 = .ok (.lstore_n 1, 1) := by decide +kernel
theorem dX4_digest_164 : decode cX4_digest 164 = .ok (.iinc 3 1, 3) := by decide +kernel
theorem dX4_digest_167 : decode cX4_digest 167 = .ok (.goto (-27), 3) := by decide +kernel
theorem dX4_digest_170 : decode cX4_digest 170 = .ok (.lload_n 1, 1) := by decide +kernel
theorem dX4_digest_171 : decode cX4_digest 171 = .ok (.lreturn, 1) := by decide +kernel
end
section
theorem dJ9_abs_0f7a4_0 : decode cJ9_abs_0f7a4 0 = .ok (.iload_n 0, 1) := by decide +kernel
theorem dJ9_abs_0f7a4_1 : decode cJ9_abs_0f7a4 1 = .ok (.ifCond .ge 8, 3) := by decide +kernel
theorem dJ9_abs_0f7a4_4 : decode cJ9_abs_0f7a4 4 = .ok (.iload_n 0, 1) := by decide +kernel
theorem dJ9_abs_0f7a4_5 : decode cJ9_abs_0f7a4 5 = .ok (.ineg, 1) := by decide +kernel
theorem dJ9_abs_0f7a4_6 : decode cJ9_abs_0f7a4 6 = .ok (.goto 4, 3) := by decide +kernel
theorem dJ9_abs_0f7a4_9 : decode cJ9_abs_0f7a4 9 = .ok (.iload_n 0, 1) := by decide +kernel
theorem dJ9_abs_0f7a4_10 : decode cJ9_abs_0f7a4 10 = .ok (.ireturn, 1) := by decide +kernel
theorem dJ9_max_7cf53_0 : decode cJ9_max_7cf53 0 = .ok (.iload_n 0, 1) := by decide +kernel
theorem dJ9_max_7cf53_1 : decode cJ9_max_7cf53 1 = .ok (.iload_n 1, 1) := by decide +kernel
theorem dJ9_max_7cf53_2 : decode cJ9_max_7cf53 2 = .ok (.if_icmp .lt 7, 3) := by decide +kernel
theorem dJ9_max_7cf53_5 : decode cJ9_max_7cf53 5 = .ok (.iload_n 0, 1) := by decide +kernel
theorem dJ9_max_7cf53_6 : decode cJ9_max_7cf53 6 = .ok (.goto 4, 3) := by decide +kernel
theorem dJ9_max_7cf53_9 : decode cJ9_max_7cf53 9 = .ok (.iload_n 1, 1) := by decide +kernel
theorem dJ9_max_7cf53_10 : decode cJ9_max_7cf53 10 = .ok (.ireturn, 1) := by decide +kernel
theorem dJ9_min_7cf53_0 : decode cJ9_min_7cf53 0 = .ok (.iload_n 0, 1) := by decide +kernel
theorem dJ9_min_7cf53_1 : decode cJ9_min_7cf53 1 = .ok (.iload_n 1, 1) := by decide +kernel
theorem dJ9_min_7cf53_2 : decode cJ9_min_7cf53 2 = .ok (.if_icmp .gt 7, 3) := by decide +kernel
theorem dJ9_min_7cf53_5 : decode cJ9_min_7cf53 5 = .ok (.iload_n 0, 1) := by decide +kernel
theorem dJ9_min_7cf53_6 : decode cJ9_min_7cf53 6 = .ok (.goto 4, 3) := by decide +kernel
theorem dJ9_min_7cf53_9 : decode cJ9_min_7cf53 9 = .ok (.iload_n 1, 1) := by decide +kernel
theorem dJ9_min_7cf53_10 : decode cJ9_min_7cf53 10 = .ok (.ireturn, 1) := by decide +kernel
set_option maxRecDepth 20000 in
theorem ggL_set_X2_set : GoodIn wsL_set wsX2_set := goodIn_ca (goodIn_ca (goodIn_r _ [7, 8, 9, 10, 11, 12, 13, 14, 6, 15, 16, 17, 18, 19, 20, 21, 22, 23, 24, 25, 26, 27, 28, 29, 30, 31, 32, 33, 34, 35, 36, 37, 38, 39, 40, 41] (by decide +kernel) (by decide +kernel)) (goodIn_sub (fun _ h => List.mem_cons_of_mem _ (List.mem_append_left _ (List.mem_append_right _ h))) (by decide +kernel))) (goodIn_sub (fun _ h => List.mem_cons_of_mem _ (List.mem_append_right _ h)) (by decide +kernel))
set_option maxRecDepth 20000 in
theorem gL_set_X2_set : GoodIn wsL_set (wsV RL 7 RX2 yX2_set wsX2_set) := goodIn_app (goodIn_of _ (by decide +kernel)) ggL_set_X2_set
theorem dL_set_0 : decode cL_set 0 = .ok (.aload 4, 2) := by decide +kernel
theorem dL_set_2 : decode cL_set 2 = .ok (.iconst 0, 1) := by decide +kernel
theorem dL_set_3 : decode cL_set 3 = .ok (.aload_n 0, 1) := by decide +kernel
theorem dL_set_4 : decode cL_set 4 = .ok (.iload_n 1, 1) := by decide +kernel
theorem dL_set_5 : decode cL_set 5 = .ok (.iload_n 2, 1) := by decide +kernel
theorem dL_set_6 : decode cL_set 6 = .ok (.iload_n 3, 1) := by decide +kernel
theorem dL_set_7 : decode cL_set 7 = .ok (.invokevirtual 7, 3) := by decide +kernel
theorem dL_set_10 : decode cL_set 10 = .ok (.i2l, 1) := by decide +kernel
theorem dL_set_11 : decode cL_set 11 = .ok (.lastore, 1) := by decide +kernel
theorem dL_set_12 : decode cL_set 12 = .ok (.goto 11, 3) := by decide +kernel
theorem dL_set_15 : decode cL_set 15 = .ok (.astore 5, 2) := by decide +kernel
theorem dL_set_17 : decode cL_set 17 = .ok (.iconst 1, 1) := by decide +kernel
theorem dL_set_18 : decode cL_set 18 = .ok (.ireturn, 1) := by decide +kernel
theorem dL_set_19 : decode cL_set 19 = .ok (.astore 5, 2) := by decide +kernel
theorem dL_set_21 : decode cL_set 21 = .ok (.iconst 2, 1) := by decide +kernel
theorem dL_set_22 : decode cL_set 22 = .ok (.ireturn, 1) := by decide +kernel
theorem dL_set_23 : decode cL_set 23 = .ok (.iconst 0, 1) := by decide +kernel
theorem dL_set_24 : decode cL_set 24 = .ok (.ireturn, 1) := by decide +kernel
set_option maxRecDepth 20000 in
theorem ggL_drop_X2_drop : GoodIn wsL_drop wsX2_drop := goodIn_ca (goodIn_ca (goodIn_ca (goodIn_r _ [8, 9, 10, 11, 12, 13, 14, 15, 16, 17, 18, 19, 20, 21, 22, 7, 23, 24, 25, 26, 27, 28, 29, 30, 31, 32, 33, 34, 35, 36, 37, 38, 39, 40, 41, 42, 43, 44, 45, 46, 47, 48, 49, 50, 51, 52, 53, 54, 55, 56, 57, 58, 59, 60] (by decide +kernel) (by decide +kernel)) (goodIn_sub (fun _ h => List.mem_cons_of_mem _ (List.mem_append_left _ (List.mem_append_left _ (List.mem_append_right _ h)))) (by decide +kernel))) (goodIn_sub (fun _ h => List.mem_cons_of_mem _ (List.mem_append_left _ (List.mem_append_right _ h))) (by decide +kernel))) (goodIn_sub (fun _ h => List.mem_cons_of_mem _ (List.mem_append_right _ h)) (by decide +kernel))
set_option maxRecDepth 20000 in
theorem gL_drop_X2_drop : GoodIn wsL_drop (wsV RL 17 RX2 yX2_drop wsX2_drop) := goodIn_app (goodIn_of _ (by decide +kernel)) ggL_drop_X2_drop
theorem dL_drop_0 : decode cL_drop 0 = .ok (.aload_n 3, 1) := by decide +kernel
theorem dL_drop_1 : decode cL_drop 1 = .ok (.iconst 0, 1) := by decide +kernel
theorem dL_drop_2 : decode cL_drop 2 = .ok (.aload_n 0, 1) := by decide +kernel
theorem dL_drop_3 : decode cL_drop 3 = .ok (.iload_n 1, 1) := by decide +kernel
theorem dL_drop_4 : decode cL_drop 4 = .ok (.iload_n 2, 1) := by decide +kernel
theorem dL_drop_5 : decode cL_drop 5 = .ok (.invokevirtual 17, 3) := by decide +kernel
theorem dL_drop_8 : decode cL_drop 8 = .ok (.i2l, 1) := by decide +kernel
theorem dL_drop_9 : decode cL_drop 9 = .ok (.lastore, 1) := by decide +kernel
theorem dL_drop_10 : decode cL_drop 10 = .ok (.goto 15, 3) := by decide +kernel
theorem dL_drop_13 : decode cL_drop 13 = .ok (.astore 4, 2) := by decide +kernel
theorem dL_drop_15 : decode cL_drop 15 = .ok (.iconst 1, 1) := by decide +kernel
theorem dL_drop_16 : decode cL_drop 16 = .ok (.ireturn, 1) := by decide +kernel
theorem dL_drop_17 : decode cL_drop 17 = .ok (.astore 4, 2) := by decide +kernel
theorem dL_drop_19 : decode cL_drop 19 = .ok (.iconst 2, 1) := by decide +kernel
theorem dL_drop_20 : decode cL_drop 20 = .ok (.ireturn, 1) := by decide +kernel
theorem dL_drop_21 : decode cL_drop 21 = .ok (.astore 4, 2) := by decide +kernel
theorem dL_drop_23 : decode cL_drop 23 = .ok (.iconst 3, 1) := by decide +kernel
theorem dL_drop_24 : decode cL_drop 24 = .ok (.ireturn, 1) := by decide +kernel
theorem dL_drop_25 : decode cL_drop 25 = .ok (.iconst 0, 1) := by decide +kernel
theorem dL_drop_26 : decode cL_drop 26 = .ok (.ireturn, 1) := by decide +kernel
set_option maxRecDepth 20000 in
theorem ggL_pump_X2_pump : GoodIn wsL_pump wsX2_pump := goodIn_ca (goodIn_ca (goodIn_r _ [7, 8, 9, 10, 11, 12, 13, 14, 6, 15, 16, 17, 18, 19, 20, 21, 22, 23, 24, 25, 26, 27, 28, 29, 30, 31, 32, 33] (by decide +kernel) (by decide +kernel)) (goodIn_sub (fun _ h => List.mem_cons_of_mem _ (List.mem_append_left _ (List.mem_append_right _ h))) (by decide +kernel))) (goodIn_sub (fun _ h => List.mem_cons_of_mem _ (List.mem_append_right _ h)) (by decide +kernel))
set_option maxRecDepth 20000 in
theorem gL_pump_X2_pump : GoodIn wsL_pump (wsV RL 23 RX2 yX2_pump wsX2_pump) := goodIn_app (goodIn_of _ (by decide +kernel)) ggL_pump_X2_pump
theorem dL_pump_0 : decode cL_pump 0 = .ok (.aload_n 3, 1) := by decide +kernel
theorem dL_pump_1 : decode cL_pump 1 = .ok (.iconst 0, 1) := by decide +kernel
theorem dL_pump_2 : decode cL_pump 2 = .ok (.aload_n 0, 1) := by decide +kernel
theorem dL_pump_3 : decode cL_pump 3 = .ok (.iload_n 1, 1) := by decide +kernel
theorem dL_pump_4 : decode cL_pump 4 = .ok (.iload_n 2, 1) := by decide +kernel
theorem dL_pump_5 : decode cL_pump 5 = .ok (.invokevirtual 23, 3) := by decide +kernel
theorem dL_pump_8 : decode cL_pump 8 = .ok (.i2l, 1) := by decide +kernel
theorem dL_pump_9 : decode cL_pump 9 = .ok (.lastore, 1) := by decide +kernel
theorem dL_pump_10 : decode cL_pump 10 = .ok (.goto 11, 3) := by decide +kernel
theorem dL_pump_13 : decode cL_pump 13 = .ok (.astore 4, 2) := by decide +kernel
theorem dL_pump_15 : decode cL_pump 15 = .ok (.iconst 1, 1) := by decide +kernel
theorem dL_pump_16 : decode cL_pump 16 = .ok (.ireturn, 1) := by decide +kernel
theorem dL_pump_17 : decode cL_pump 17 = .ok (.astore 4, 2) := by decide +kernel
theorem dL_pump_19 : decode cL_pump 19 = .ok (.iconst 2, 1) := by decide +kernel
theorem dL_pump_20 : decode cL_pump 20 = .ok (.ireturn, 1) := by decide +kernel
theorem dL_pump_21 : decode cL_pump 21 = .ok (.iconst 0, 1) := by decide +kernel
theorem dL_pump_22 : decode cL_pump 22 = .ok (.ireturn, 1) := by decide +kernel
set_option maxRecDepth 20000 in
theorem ggL_glass_X2_glass : GoodIn wsL_glass wsX2_glass := goodIn_ca (goodIn_r _ [6, 7, 8, 9, 10, 11, 12, 13, 14, 15, 16, 5, 17, 18, 19, 20, 21, 22, 23, 24, 25, 26, 27, 28, 29, 30, 31, 32, 33, 34, 35, 36, 37, 38, 39, 40, 41, 42, 43, 44, 45, 46, 47, 48, 49, 50, 51, 52, 53, 54, 55, 56, 57, 58, 59, 60, 61, 62] (by decide +kernel) (by decide +kernel)) (goodIn_sub (fun _ h => List.mem_cons_of_mem _ (List.mem_append_right _ h)) (by decide +kernel))
set_option maxRecDepth 20000 in
theorem gL_glass_X2_glass : GoodIn wsL_glass (wsV RL 26 RX2 yX2_glass wsX2_glass) := goodIn_app (goodIn_of _ (by decide +kernel)) ggL_glass_X2_glass
theorem dL_glass_0 : decode cL_glass 0 = .ok (.aload_n 3, 1) := by decide +kernel
theorem dL_glass_1 : decode cL_glass 1 = .ok (.iconst 0, 1) := by decide +kernel
theorem dL_glass_2 : decode cL_glass 2 = .ok (.aload_n 0, 1) := by decide +kernel
theorem dL_glass_3 : decode cL_glass 3 = .ok (.iload_n 1, 1) := by decide +kernel
theorem dL_glass_4 : decode cL_glass 4 = .ok (.iload_n 2, 1) := by decide +kernel
theorem dL_glass_5 : decode cL_glass 5 = .ok (.invokevirtual 26, 3) := by decide +kernel
theorem dL_glass_8 : decode cL_glass 8 = .ok (.i2l, 1) := by decide +kernel
theorem dL_glass_9 : decode cL_glass 9 = .ok (.lastore, 1) := by decide +kernel
theorem dL_glass_10 : decode cL_glass 10 = .ok (.goto 7, 3) := by decide +kernel
theorem dL_glass_13 : decode cL_glass 13 = .ok (.astore 4, 2) := by decide +kernel
theorem dL_glass_15 : decode cL_glass 15 = .ok (.iconst 1, 1) := by decide +kernel
theorem dL_glass_16 : decode cL_glass 16 = .ok (.ireturn, 1) := by decide +kernel
theorem dL_glass_17 : decode cL_glass 17 = .ok (.iconst 0, 1) := by decide +kernel
theorem dL_glass_18 : decode cL_glass 18 = .ok (.ireturn, 1) := by decide +kernel
set_option maxRecDepth 20000 in
theorem ggL_row_X2_row : GoodIn wsL_row wsX2_row := goodIn_ca (goodIn_r _ [6, 7, 8, 9, 10, 11, 5, 12, 13, 14, 15, 16, 17, 18, 19, 20, 21, 22, 23, 24, 25, 26, 27, 28, 29, 30, 31, 32, 33, 34, 35, 36] (by decide +kernel) (by decide +kernel)) (goodIn_sub (fun _ h => List.mem_cons_of_mem _ (List.mem_append_right _ h)) (by decide +kernel))
set_option maxRecDepth 20000 in
theorem gL_row_X2_row : GoodIn wsL_row (wsV RL 29 RX2 yX2_row wsX2_row) := goodIn_app (goodIn_of _ (by decide +kernel)) ggL_row_X2_row
theorem dL_row_0 : decode cL_row 0 = .ok (.aload_n 3, 1) := by decide +kernel
theorem dL_row_1 : decode cL_row 1 = .ok (.iconst 0, 1) := by decide +kernel
theorem dL_row_2 : decode cL_row 2 = .ok (.aload_n 0, 1) := by decide +kernel
theorem dL_row_3 : decode cL_row 3 = .ok (.iload_n 1, 1) := by decide +kernel
theorem dL_row_4 : decode cL_row 4 = .ok (.iload_n 2, 1) := by decide +kernel
theorem dL_row_5 : decode cL_row 5 = .ok (.invokevirtual 29, 3) := by decide +kernel
theorem dL_row_8 : decode cL_row 8 = .ok (.i2l, 1) := by decide +kernel
theorem dL_row_9 : decode cL_row 9 = .ok (.lastore, 1) := by decide +kernel
theorem dL_row_10 : decode cL_row 10 = .ok (.goto 7, 3) := by decide +kernel
theorem dL_row_13 : decode cL_row 13 = .ok (.astore 4, 2) := by decide +kernel
theorem dL_row_15 : decode cL_row 15 = .ok (.iconst 1, 1) := by decide +kernel
theorem dL_row_16 : decode cL_row 16 = .ok (.ireturn, 1) := by decide +kernel
theorem dL_row_17 : decode cL_row 17 = .ok (.iconst 0, 1) := by decide +kernel
theorem dL_row_18 : decode cL_row 18 = .ok (.ireturn, 1) := by decide +kernel
set_option maxRecDepth 20000 in
theorem ggL_setLength_X2_setLength : GoodIn wsL_setLength wsX2_setLength := goodIn_ca (goodIn_r _ [6, 7, 8, 9, 10, 11, 5, 12, 13, 14, 15, 16, 17, 18, 19, 20] (by decide +kernel) (by decide +kernel)) (goodIn_sub (fun _ h => List.mem_cons_of_mem _ (List.mem_append_right _ h)) (by decide +kernel))
set_option maxRecDepth 20000 in
theorem gL_setLength_X2_setLength : GoodIn wsL_setLength (wsV RL 32 RX2 yX2_setLength wsX2_setLength) := goodIn_app (goodIn_of _ (by decide +kernel)) ggL_setLength_X2_setLength
theorem dL_setLength_0 : decode cL_setLength 0 = .ok (.aload_n 2, 1) := by decide +kernel
theorem dL_setLength_1 : decode cL_setLength 1 = .ok (.iconst 0, 1) := by decide +kernel
theorem dL_setLength_2 : decode cL_setLength 2 = .ok (.aload_n 0, 1) := by decide +kernel
theorem dL_setLength_3 : decode cL_setLength 3 = .ok (.iload_n 1, 1) := by decide +kernel
theorem dL_setLength_4 : decode cL_setLength 4 = .ok (.invokevirtual 32, 3) := by decide +kernel
theorem dL_setLength_7 : decode cL_setLength 7 = .ok (.i2l, 1) := by decide +kernel
theorem dL_setLength_8 : decode cL_setLength 8 = .ok (.lastore, 1) := by decide +kernel
theorem dL_setLength_9 : decode cL_setLength 9 = .ok (.goto 6, 3) := by decide +kernel
theorem dL_setLength_12 : decode cL_setLength 12 = .ok (.astore_n 3, 1) := by decide +kernel
theorem dL_setLength_13 : decode cL_setLength 13 = .ok (.iconst 1, 1) := by decide +kernel
theorem dL_setLength_14 : decode cL_setLength 14 = .ok (.ireturn, 1) := by decide +kernel
theorem dL_setLength_15 : decode cL_setLength 15 = .ok (.iconst 0, 1) := by decide +kernel
theorem dL_setLength_16 : decode cL_setLength 16 = .ok (.ireturn, 1) := by decide +kernel
set_option maxRecDepth 20000 in
theorem ggL_note_X2_note : GoodIn wsL_note wsX2_note := goodIn_ca (goodIn_ca (goodIn_r _ [7, 8, 9, 10, 11, 12, 13, 14, 6, 15, 16, 17, 18, 19, 20, 21, 22, 23, 24, 25, 26, 27, 28, 29, 30, 31] (by decide +kernel) (by decide +kernel)) (goodIn_sub (fun _ h => List.mem_cons_of_mem _ (List.mem_append_left _ (List.mem_append_right _ h))) (by decide +kernel))) (goodIn_sub (fun _ h => List.mem_cons_of_mem _ (List.mem_append_right _ h)) (by decide +kernel))
set_option maxRecDepth 20000 in
theorem gL_note_X2_note : GoodIn wsL_note (wsV RL 36 RX2 yX2_note wsX2_note) := goodIn_app (goodIn_of _ (by decide +kernel)) ggL_note_X2_note
theorem dL_note_0 : decode cL_note 0 = .ok (.aload 4, 2) := by decide +kernel
theorem dL_note_2 : decode cL_note 2 = .ok (.iconst 0, 1) := by decide +kernel
theorem dL_note_3 : decode cL_note 3 = .ok (.aload_n 0, 1) := by decide +kernel
theorem dL_note_4 : decode cL_note 4 = .ok (.iload_n 1, 1) := by decide +kernel
theorem dL_note_5 : decode cL_note 5 = .ok (.iload_n 2, 1) := by decide +kernel
theorem dL_note_6 : decode cL_note 6 = .ok (.iload_n 3, 1) := by decide +kernel
theorem dL_note_7 : decode cL_note 7 = .ok (.invokevirtual 36, 3) := by decide +kernel
theorem dL_note_10 : decode cL_note 10 = .ok (.i2l, 1) := by decide +kernel
theorem dL_note_11 : decode cL_note 11 = .ok (.lastore, 1) := by decide +kernel
theorem dL_note_12 : decode cL_note 12 = .ok (.goto 11, 3) := by decide +kernel
theorem dL_note_15 : decode cL_note 15 = .ok (.astore 5, 2) := by decide +kernel
theorem dL_note_17 : decode cL_note 17 = .ok (.iconst 1, 1) := by decide +kernel
theorem dL_note_18 : decode cL_note 18 = .ok (.ireturn, 1) := by decide +kernel
theorem dL_note_19 : decode cL_note 19 = .ok (.astore 5, 2) := by decide +kernel
theorem dL_note_21 : decode cL_note 21 = .ok (.iconst 2, 1) := by decide +kernel
theorem dL_note_22 : decode cL_note 22 = .ok (.ireturn, 1) := by decide +kernel
theorem dL_note_23 : decode cL_note 23 = .ok (.iconst 0, 1) := by decide +kernel
theorem dL_note_24 : decode cL_note 24 = .ok (.ireturn, 1) := by decide +kernel
set_option maxRecDepth 20000 in
theorem ggL_strike_X2_strike : GoodIn wsL_strike wsX2_strike := goodIn_ca (goodIn_r _ [6, 7, 8, 9, 10, 11, 12, 13, 14, 15, 16, 17, 18, 19, 20, 21, 22, 23, 24, 25, 26, 27, 28, 29] (by decide +kernel) (by decide +kernel)) (goodIn_sub (fun _ h => List.mem_cons_of_mem _ (List.mem_append_right _ h)) (by decide +kernel))
set_option maxRecDepth 20000 in
theorem gL_strike_X2_strike : GoodIn wsL_strike (wsV RL 39 RX2 yX2_strike wsX2_strike) := goodIn_app (goodIn_of _ (by decide +kernel)) ggL_strike_X2_strike
theorem dL_strike_0 : decode cL_strike 0 = .ok (.aload_n 2, 1) := by decide +kernel
theorem dL_strike_1 : decode cL_strike 1 = .ok (.iconst 0, 1) := by decide +kernel
theorem dL_strike_2 : decode cL_strike 2 = .ok (.aload_n 0, 1) := by decide +kernel
theorem dL_strike_3 : decode cL_strike 3 = .ok (.iload_n 1, 1) := by decide +kernel
theorem dL_strike_4 : decode cL_strike 4 = .ok (.invokevirtual 39, 3) := by decide +kernel
theorem dL_strike_7 : decode cL_strike 7 = .ok (.i2l, 1) := by decide +kernel
theorem dL_strike_8 : decode cL_strike 8 = .ok (.lastore, 1) := by decide +kernel
theorem dL_strike_9 : decode cL_strike 9 = .ok (.goto 6, 3) := by decide +kernel
theorem dL_strike_12 : decode cL_strike 12 = .ok (.astore_n 3, 1) := by decide +kernel
theorem dL_strike_13 : decode cL_strike 13 = .ok (.iconst 1, 1) := by decide +kernel
theorem dL_strike_14 : decode cL_strike 14 = .ok (.ireturn, 1) := by decide +kernel
theorem dL_strike_15 : decode cL_strike 15 = .ok (.iconst 0, 1) := by decide +kernel
theorem dL_strike_16 : decode cL_strike 16 = .ok (.ireturn, 1) := by decide +kernel
set_option maxRecDepth 20000 in
theorem ggL_written_X2_written : GoodIn wsL_written wsX2_written := goodIn_ca (goodIn_r _ [6, 7, 8, 9, 10, 11, 12, 13, 14, 15, 16, 5, 17, 18, 19, 20, 21, 22, 23, 24, 25] (by decide +kernel) (by decide +kernel)) (goodIn_sub (fun _ h => List.mem_cons_of_mem _ (List.mem_append_right _ h)) (by decide +kernel))
set_option maxRecDepth 20000 in
theorem gL_written_X2_written : GoodIn wsL_written (wsV RL 42 RX2 yX2_written wsX2_written) := goodIn_app (goodIn_of _ (by decide +kernel)) ggL_written_X2_written
theorem dL_written_0 : decode cL_written 0 = .ok (.aload_n 3, 1) := by decide +kernel
theorem dL_written_1 : decode cL_written 1 = .ok (.iconst 0, 1) := by decide +kernel
theorem dL_written_2 : decode cL_written 2 = .ok (.aload_n 0, 1) := by decide +kernel
theorem dL_written_3 : decode cL_written 3 = .ok (.iload_n 1, 1) := by decide +kernel
theorem dL_written_4 : decode cL_written 4 = .ok (.iload_n 2, 1) := by decide +kernel
theorem dL_written_5 : decode cL_written 5 = .ok (.invokevirtual 42, 3) := by decide +kernel
theorem dL_written_8 : decode cL_written 8 = .ok (.i2l, 1) := by decide +kernel
theorem dL_written_9 : decode cL_written 9 = .ok (.lastore, 1) := by decide +kernel
theorem dL_written_10 : decode cL_written 10 = .ok (.goto 7, 3) := by decide +kernel
theorem dL_written_13 : decode cL_written 13 = .ok (.astore 4, 2) := by decide +kernel
theorem dL_written_15 : decode cL_written 15 = .ok (.iconst 1, 1) := by decide +kernel
theorem dL_written_16 : decode cL_written 16 = .ok (.ireturn, 1) := by decide +kernel
theorem dL_written_17 : decode cL_written 17 = .ok (.iconst 0, 1) := by decide +kernel
theorem dL_written_18 : decode cL_written 18 = .ok (.ireturn, 1) := by decide +kernel
set_option maxRecDepth 20000 in
theorem ggL_play_X2_play : GoodIn wsL_play wsX2_play := goodIn_ca (goodIn_r _ [6, 7, 8, 9, 10, 11, 5, 12, 13, 14, 15, 16, 17, 18, 19, 20, 21, 22, 23, 24, 25, 26, 27, 28, 29, 30, 31, 32, 33, 34, 35, 36, 37, 38, 39, 40, 41, 42, 43, 44, 45, 46, 47, 48, 49, 50, 51, 52, 53, 54, 55, 56, 57, 58, 59, 60, 61, 62, 63, 64, 65, 66, 67, 68, 69, 70, 71, 72, 73, 74, 75, 76, 77, 78, 79, 80, 81, 82, 83, 84, 85, 86, 87, 88, 89, 90, 91, 92, 93, 94, 95, 96, 97, 98, 99, 100, 101, 102, 103, 104, 105, 106] (by decide +kernel) (by decide +kernel)) (goodIn_sub (fun _ h => List.mem_cons_of_mem _ (List.mem_append_right _ h)) (by decide +kernel))
set_option maxRecDepth 20000 in
theorem gL_play_X2_play : GoodIn wsL_play (wsV RL 45 RX2 yX2_play wsX2_play) := goodIn_app (goodIn_of _ (by decide +kernel)) ggL_play_X2_play
theorem dL_play_0 : decode cL_play 0 = .ok (.aload_n 2, 1) := by decide +kernel
theorem dL_play_1 : decode cL_play 1 = .ok (.iconst 0, 1) := by decide +kernel
theorem dL_play_2 : decode cL_play 2 = .ok (.aload_n 0, 1) := by decide +kernel
theorem dL_play_3 : decode cL_play 3 = .ok (.iload_n 1, 1) := by decide +kernel
theorem dL_play_4 : decode cL_play 4 = .ok (.invokevirtual 45, 3) := by decide +kernel
theorem dL_play_7 : decode cL_play 7 = .ok (.i2l, 1) := by decide +kernel
theorem dL_play_8 : decode cL_play 8 = .ok (.lastore, 1) := by decide +kernel
theorem dL_play_9 : decode cL_play 9 = .ok (.goto 6, 3) := by decide +kernel
theorem dL_play_12 : decode cL_play 12 = .ok (.astore_n 3, 1) := by decide +kernel
theorem dL_play_13 : decode cL_play 13 = .ok (.iconst 1, 1) := by decide +kernel
theorem dL_play_14 : decode cL_play 14 = .ok (.ireturn, 1) := by decide +kernel
theorem dL_play_15 : decode cL_play 15 = .ok (.iconst 0, 1) := by decide +kernel
theorem dL_play_16 : decode cL_play 16 = .ok (.ireturn, 1) := by decide +kernel
set_option maxRecDepth 20000 in
theorem ggL_count_X2_count : GoodIn wsL_count wsX2_count := goodIn_ca (goodIn_r _ [6, 7, 8, 9, 10, 11, 12, 5, 13, 14, 15, 16, 17, 18, 19, 20, 21, 22, 23, 24, 25, 26, 27, 28, 29, 30, 31, 32, 33, 34, 35, 36, 37, 38, 39, 40, 41, 42, 43, 44, 45, 46, 47, 48, 49, 50, 51, 52, 53, 54, 55, 56, 57, 58, 59, 60, 61, 62, 63, 64, 65, 66, 67, 68, 69, 70, 71, 72, 73, 74, 75, 76, 77, 78, 79, 80] (by decide +kernel) (by decide +kernel)) (goodIn_sub (fun _ h => List.mem_cons_of_mem _ (List.mem_append_right _ h)) (by decide +kernel))
set_option maxRecDepth 20000 in
theorem gL_count_X2_count : GoodIn wsL_count (wsV RL 48 RX2 yX2_count wsX2_count) := goodIn_app (goodIn_of _ (by decide +kernel)) ggL_count_X2_count
theorem dL_count_0 : decode cL_count 0 = .ok (.aload_n 2, 1) := by decide +kernel
theorem dL_count_1 : decode cL_count 1 = .ok (.iconst 0, 1) := by decide +kernel
theorem dL_count_2 : decode cL_count 2 = .ok (.aload_n 0, 1) := by decide +kernel
theorem dL_count_3 : decode cL_count 3 = .ok (.iload_n 1, 1) := by decide +kernel
theorem dL_count_4 : decode cL_count 4 = .ok (.invokevirtual 48, 3) := by decide +kernel
theorem dL_count_7 : decode cL_count 7 = .ok (.i2l, 1) := by decide +kernel
theorem dL_count_8 : decode cL_count 8 = .ok (.lastore, 1) := by decide +kernel
theorem dL_count_9 : decode cL_count 9 = .ok (.goto 6, 3) := by decide +kernel
theorem dL_count_12 : decode cL_count 12 = .ok (.astore_n 3, 1) := by decide +kernel
theorem dL_count_13 : decode cL_count 13 = .ok (.iconst 1, 1) := by decide +kernel
theorem dL_count_14 : decode cL_count 14 = .ok (.ireturn, 1) := by decide +kernel
theorem dL_count_15 : decode cL_count 15 = .ok (.iconst 0, 1) := by decide +kernel
theorem dL_count_16 : decode cL_count 16 = .ok (.ireturn, 1) := by decide +kernel
set_option maxRecDepth 20000 in
theorem ggL_needs_X2_needs : GoodIn wsL_needs wsX2_needs := goodIn_ca (goodIn_ca (goodIn_r _ [7, 8, 9, 10, 11, 12, 13, 14, 15, 16, 17, 18, 19, 6, 20, 21, 22, 23, 24, 25, 26, 27, 28, 29, 30, 31, 32, 33, 34, 35, 36, 37, 38, 39, 40, 41, 42, 43, 44, 45, 46, 47, 48, 49, 50, 51, 52, 53] (by decide +kernel) (by decide +kernel)) (goodIn_sub (fun _ h => List.mem_cons_of_mem _ (List.mem_append_left _ (List.mem_append_right _ h))) (by decide +kernel))) (goodIn_sub (fun _ h => List.mem_cons_of_mem _ (List.mem_append_right _ h)) (by decide +kernel))
set_option maxRecDepth 20000 in
theorem gL_needs_X2_needs : GoodIn wsL_needs (wsV RL 51 RX2 yX2_needs wsX2_needs) := goodIn_app (goodIn_of _ (by decide +kernel)) ggL_needs_X2_needs
theorem dL_needs_0 : decode cL_needs 0 = .ok (.aload_n 3, 1) := by decide +kernel
theorem dL_needs_1 : decode cL_needs 1 = .ok (.iconst 0, 1) := by decide +kernel
theorem dL_needs_2 : decode cL_needs 2 = .ok (.aload_n 0, 1) := by decide +kernel
theorem dL_needs_3 : decode cL_needs 3 = .ok (.iload_n 1, 1) := by decide +kernel
theorem dL_needs_4 : decode cL_needs 4 = .ok (.iload_n 2, 1) := by decide +kernel
theorem dL_needs_5 : decode cL_needs 5 = .ok (.invokevirtual 51, 3) := by decide +kernel
theorem dL_needs_8 : decode cL_needs 8 = .ok (.i2l, 1) := by decide +kernel
theorem dL_needs_9 : decode cL_needs 9 = .ok (.lastore, 1) := by decide +kernel
theorem dL_needs_10 : decode cL_needs 10 = .ok (.goto 11, 3) := by decide +kernel
theorem dL_needs_13 : decode cL_needs 13 = .ok (.astore 4, 2) := by decide +kernel
theorem dL_needs_15 : decode cL_needs 15 = .ok (.iconst 1, 1) := by decide +kernel
theorem dL_needs_16 : decode cL_needs 16 = .ok (.ireturn, 1) := by decide +kernel
theorem dL_needs_17 : decode cL_needs 17 = .ok (.astore 4, 2) := by decide +kernel
theorem dL_needs_19 : decode cL_needs 19 = .ok (.iconst 2, 1) := by decide +kernel
theorem dL_needs_20 : decode cL_needs 20 = .ok (.ireturn, 1) := by decide +kernel
theorem dL_needs_21 : decode cL_needs 21 = .ok (.iconst 0, 1) := by decide +kernel
theorem dL_needs_22 : decode cL_needs 22 = .ok (.ireturn, 1) := by decide +kernel
set_option maxRecDepth 20000 in
theorem ggL_foresee_X2_foresee : GoodIn wsL_foresee wsX2_foresee := goodIn_ca (goodIn_ca (goodIn_r _ [7, 8, 9, 10, 11, 12, 13, 14, 15, 6, 16, 17, 18, 19, 20, 21, 22, 23, 24, 25, 26, 27, 28, 29, 30, 31, 32, 33, 34, 35, 36, 37, 38, 39, 40, 41, 42, 43, 44, 45, 46, 47, 48, 49, 50, 51, 52, 53, 54, 55, 56, 57, 58, 59, 60, 61, 62, 63, 64, 65, 66, 67, 68, 69, 70, 71, 72, 73, 74, 75, 76, 77, 78, 79, 80, 81, 82, 83, 84, 85, 86, 87, 88, 89, 90, 91, 92, 93, 94, 95, 96, 97, 98, 99, 100, 101, 102, 103, 104, 105, 106, 107, 108, 109, 110, 111, 112, 113, 114, 115, 116] (by decide +kernel) (by decide +kernel)) (goodIn_sub (fun _ h => List.mem_cons_of_mem _ (List.mem_append_left _ (List.mem_append_right _ h))) (by decide +kernel))) (goodIn_sub (fun _ h => List.mem_cons_of_mem _ (List.mem_append_right _ h)) (by decide +kernel))
set_option maxRecDepth 20000 in
theorem gL_foresee_X2_foresee : GoodIn wsL_foresee (wsV RL 54 RX2 yX2_foresee wsX2_foresee) := goodIn_app (goodIn_of _ (by decide +kernel)) ggL_foresee_X2_foresee
theorem dL_foresee_0 : decode cL_foresee 0 = .ok (.aload_n 3, 1) := by decide +kernel
theorem dL_foresee_1 : decode cL_foresee 1 = .ok (.iconst 0, 1) := by decide +kernel
theorem dL_foresee_2 : decode cL_foresee 2 = .ok (.aload_n 0, 1) := by decide +kernel
theorem dL_foresee_3 : decode cL_foresee 3 = .ok (.iload_n 1, 1) := by decide +kernel
theorem dL_foresee_4 : decode cL_foresee 4 = .ok (.iload_n 2, 1) := by decide +kernel
theorem dL_foresee_5 : decode cL_foresee 5 = .ok (.invokevirtual 54, 3) := by decide +kernel
theorem dL_foresee_8 : decode cL_foresee 8 = .ok (.i2l, 1) := by decide +kernel
theorem dL_foresee_9 : decode cL_foresee 9 = .ok (.lastore, 1) := by decide +kernel
theorem dL_foresee_10 : decode cL_foresee 10 = .ok (.goto 11, 3) := by decide +kernel
theorem dL_foresee_13 : decode cL_foresee 13 = .ok (.astore 4, 2) := by decide +kernel
theorem dL_foresee_15 : decode cL_foresee 15 = .ok (.iconst 1, 1) := by decide +kernel
theorem dL_foresee_16 : decode cL_foresee 16 = .ok (.ireturn, 1) := by decide +kernel
theorem dL_foresee_17 : decode cL_foresee 17 = .ok (.astore 4, 2) := by decide +kernel
theorem dL_foresee_19 : decode cL_foresee 19 = .ok (.iconst 2, 1) := by decide +kernel
theorem dL_foresee_20 : decode cL_foresee 20 = .ok (.ireturn, 1) := by decide +kernel
theorem dL_foresee_21 : decode cL_foresee 21 = .ok (.iconst 0, 1) := by decide +kernel
theorem dL_foresee_22 : decode cL_foresee 22 = .ok (.ireturn, 1) := by decide +kernel
set_option maxRecDepth 20000 in
theorem ggL_advise_X2_advise : GoodIn wsL_advise wsX2_advise := goodIn_ca (goodIn_r _ [6, 7, 8, 9, 10, 11, 12, 5, 13, 14, 15, 16, 17, 18, 19, 20, 21, 22, 23, 24, 25, 26, 27, 28, 29, 30, 31, 32, 33, 34, 35, 36, 37, 38, 39, 40, 41, 42, 43, 44, 45, 46, 47, 48, 49, 50, 51, 52, 53, 54, 55, 56, 57, 58, 59, 60, 61, 62, 63, 64, 65, 66, 67, 68, 69, 70, 71, 72, 73, 74, 75, 76, 77, 78, 79, 80, 81, 82, 83, 84, 85, 86, 87, 88, 89, 90, 91, 92, 93, 94, 95, 96, 97, 98, 99, 100, 101, 102, 103, 104, 105, 106, 107, 108, 109, 110, 111, 112, 113, 114, 115, 116, 117, 118, 119, 120, 121, 122, 123, 124, 125, 126, 127, 128, 129] (by decide +kernel) (by decide +kernel)) (goodIn_sub (fun _ h => List.mem_cons_of_mem _ (List.mem_append_right _ h)) (by decide +kernel))
set_option maxRecDepth 20000 in
theorem gL_advise_X2_advise : GoodIn wsL_advise (wsV RL 57 RX2 yX2_advise wsX2_advise) := goodIn_app (goodIn_of _ (by decide +kernel)) ggL_advise_X2_advise
theorem dL_advise_0 : decode cL_advise 0 = .ok (.aload_n 3, 1) := by decide +kernel
theorem dL_advise_1 : decode cL_advise 1 = .ok (.iconst 0, 1) := by decide +kernel
theorem dL_advise_2 : decode cL_advise 2 = .ok (.aload_n 0, 1) := by decide +kernel
theorem dL_advise_3 : decode cL_advise 3 = .ok (.iload_n 1, 1) := by decide +kernel
theorem dL_advise_4 : decode cL_advise 4 = .ok (.iload_n 2, 1) := by decide +kernel
theorem dL_advise_5 : decode cL_advise 5 = .ok (.invokevirtual 57, 3) := by decide +kernel
theorem dL_advise_8 : decode cL_advise 8 = .ok (.i2l, 1) := by decide +kernel
theorem dL_advise_9 : decode cL_advise 9 = .ok (.lastore, 1) := by decide +kernel
theorem dL_advise_10 : decode cL_advise 10 = .ok (.goto 7, 3) := by decide +kernel
theorem dL_advise_13 : decode cL_advise 13 = .ok (.astore 4, 2) := by decide +kernel
theorem dL_advise_15 : decode cL_advise 15 = .ok (.iconst 1, 1) := by decide +kernel
theorem dL_advise_16 : decode cL_advise 16 = .ok (.ireturn, 1) := by decide +kernel
theorem dL_advise_17 : decode cL_advise 17 = .ok (.iconst 0, 1) := by decide +kernel
theorem dL_advise_18 : decode cL_advise 18 = .ok (.ireturn, 1) := by decide +kernel
set_option maxRecDepth 20000 in
theorem ggL_wants_X2_wants : GoodIn wsL_wants wsX2_wants := goodIn_ca (goodIn_ca (goodIn_r _ [7, 8, 9, 10, 11, 12, 13, 6, 14, 15, 16, 17, 18, 19, 20, 21, 22, 23, 24, 25, 26, 27, 28, 29, 30, 31, 32, 33, 34, 35, 36, 37, 38, 39, 40, 41, 42, 43, 44, 45, 46, 47, 48, 49, 50, 51, 52, 53, 54, 55, 56, 57, 58, 59, 60, 61, 62, 63, 64, 65, 66, 67, 68, 69, 70, 71, 72, 73, 74, 75, 76, 77, 78, 79, 80, 81, 82, 83, 84, 85, 86, 87, 88, 89, 90, 91, 92, 93, 94, 95, 96, 97, 98, 99, 100, 101, 102, 103, 104, 105, 106, 107, 108, 109, 110, 111, 112, 113, 114, 115, 116, 117, 118, 119, 120] (by decide +kernel) (by decide +kernel)) (goodIn_sub (fun _ h => List.mem_cons_of_mem _ (List.mem_append_left _ (List.mem_append_right _ h))) (by decide +kernel))) (goodIn_sub (fun _ h => List.mem_cons_of_mem _ (List.mem_append_right _ h)) (by decide +kernel))
set_option maxRecDepth 20000 in
theorem gL_wants_X2_wants : GoodIn wsL_wants (wsV RL 60 RX2 yX2_wants wsX2_wants) := goodIn_app (goodIn_of _ (by decide +kernel)) ggL_wants_X2_wants
theorem dL_wants_0 : decode cL_wants 0 = .ok (.aload_n 3, 1) := by decide +kernel
theorem dL_wants_1 : decode cL_wants 1 = .ok (.iconst 0, 1) := by decide +kernel
theorem dL_wants_2 : decode cL_wants 2 = .ok (.aload_n 0, 1) := by decide +kernel
theorem dL_wants_3 : decode cL_wants 3 = .ok (.iload_n 1, 1) := by decide +kernel
theorem dL_wants_4 : decode cL_wants 4 = .ok (.iload_n 2, 1) := by decide +kernel
theorem dL_wants_5 : decode cL_wants 5 = .ok (.invokevirtual 60, 3) := by decide +kernel
theorem dL_wants_8 : decode cL_wants 8 = .ok (.i2l, 1) := by decide +kernel
theorem dL_wants_9 : decode cL_wants 9 = .ok (.lastore, 1) := by decide +kernel
theorem dL_wants_10 : decode cL_wants 10 = .ok (.goto 11, 3) := by decide +kernel
theorem dL_wants_13 : decode cL_wants 13 = .ok (.astore 4, 2) := by decide +kernel
theorem dL_wants_15 : decode cL_wants 15 = .ok (.iconst 1, 1) := by decide +kernel
theorem dL_wants_16 : decode cL_wants 16 = .ok (.ireturn, 1) := by decide +kernel
theorem dL_wants_17 : decode cL_wants 17 = .ok (.astore 4, 2) := by decide +kernel
theorem dL_wants_19 : decode cL_wants 19 = .ok (.iconst 2, 1) := by decide +kernel
theorem dL_wants_20 : decode cL_wants 20 = .ok (.ireturn, 1) := by decide +kernel
theorem dL_wants_21 : decode cL_wants 21 = .ok (.iconst 0, 1) := by decide +kernel
theorem dL_wants_22 : decode cL_wants 22 = .ok (.ireturn, 1) := by decide +kernel
end
section
/-! what the descriptors of the methods say: decided once -/
theorem hdS_X0_init : yX0_init.cls ≠ "java/lang/invoke/MethodHandle" ∧ yX0_init.cls ≠ "java/lang/invoke/VarHandle" ∧ (parseMethodDescriptor yX0_init.desc).map (fun d => d.parameters.length) = some 1 := by decide +kernel
theorem hdS_X0_takeOver : yX0_takeOver.cls ≠ "java/lang/invoke/MethodHandle" ∧ yX0_takeOver.cls ≠ "java/lang/invoke/VarHandle" ∧ (parseMethodDescriptor yX0_takeOver.desc).map (fun d => d.parameters.length) = some 1 := by decide +kernel
theorem hdS_X0_hasGlass : yX0_hasGlass.cls ≠ "java/lang/invoke/MethodHandle" ∧ yX0_hasGlass.cls ≠ "java/lang/invoke/VarHandle" ∧ (parseMethodDescriptor yX0_hasGlass.desc).map (fun d => d.parameters.length) = some 1 := by decide +kernel
theorem hdS_X0_addGlass : yX0_addGlass.cls ≠ "java/lang/invoke/MethodHandle" ∧ yX0_addGlass.cls ≠ "java/lang/invoke/VarHandle" ∧ (parseMethodDescriptor yX0_addGlass.desc).map (fun d => d.parameters.length) = some 3 := by decide +kernel
theorem hdS_X0_setPump : yX0_setPump.cls ≠ "java/lang/invoke/MethodHandle" ∧ yX0_setPump.cls ≠ "java/lang/invoke/VarHandle" ∧ (parseMethodDescriptor yX0_setPump.desc).map (fun d => d.parameters.length) = some 2 := by decide +kernel
theorem hdS_X0_mostDrops : yX0_mostDrops.cls ≠ "java/lang/invoke/MethodHandle" ∧ yX0_mostDrops.cls ≠ "java/lang/invoke/VarHandle" ∧ (parseMethodDescriptor yX0_mostDrops.desc).map (fun d => d.parameters.length) = some 1 := by decide +kernel
theorem hdS_X0_emptyTone : yX0_emptyTone.cls ≠ "java/lang/invoke/MethodHandle" ∧ yX0_emptyTone.cls ≠ "java/lang/invoke/VarHandle" ∧ (parseMethodDescriptor yX0_emptyTone.desc).map (fun d => d.parameters.length) = some 1 := by decide +kernel
theorem hdS_X0_dropsPerTone : yX0_dropsPerTone.cls ≠ "java/lang/invoke/MethodHandle" ∧ yX0_dropsPerTone.cls ≠ "java/lang/invoke/VarHandle" ∧ (parseMethodDescriptor yX0_dropsPerTone.desc).map (fun d => d.parameters.length) = some 1 := by decide +kernel
theorem hdS_X0_toneOf : yX0_toneOf.cls ≠ "java/lang/invoke/MethodHandle" ∧ yX0_toneOf.cls ≠ "java/lang/invoke/VarHandle" ∧ (parseMethodDescriptor yX0_toneOf.desc).map (fun d => d.parameters.length) = some 1 := by decide +kernel
theorem hdS_X0_fewestDropsFor : yX0_fewestDropsFor.cls ≠ "java/lang/invoke/MethodHandle" ∧ yX0_fewestDropsFor.cls ≠ "java/lang/invoke/VarHandle" ∧ (parseMethodDescriptor yX0_fewestDropsFor.desc).map (fun d => d.parameters.length) = some 2 := by decide +kernel
theorem hdS_X0_canBeTuned : yX0_canBeTuned.cls ≠ "java/lang/invoke/MethodHandle" ∧ yX0_canBeTuned.cls ≠ "java/lang/invoke/VarHandle" ∧ (parseMethodDescriptor yX0_canBeTuned.desc).map (fun d => d.parameters.length) = some 2 := by decide +kernel
theorem hdS_X0_tuneTo : yX0_tuneTo.cls ≠ "java/lang/invoke/MethodHandle" ∧ yX0_tuneTo.cls ≠ "java/lang/invoke/VarHandle" ∧ (parseMethodDescriptor yX0_tuneTo.desc).map (fun d => d.parameters.length) = some 2 := by decide +kernel
theorem hdS_X0_crackedGlasses : yX0_crackedGlasses.cls ≠ "java/lang/invoke/MethodHandle" ∧ yX0_crackedGlasses.cls ≠ "java/lang/invoke/VarHandle" ∧ (parseMethodDescriptor yX0_crackedGlasses.desc).map (fun d => d.parameters.length) = some 0 := by decide +kernel
theorem hdS_X0_glassesInRow : yX0_glassesInRow.cls ≠ "java/lang/invoke/MethodHandle" ∧ yX0_glassesInRow.cls ≠ "java/lang/invoke/VarHandle" ∧ (parseMethodDescriptor yX0_glassesInRow.desc).map (fun d => d.parameters.length) = some 1 := by decide +kernel
theorem hdS_X0_allAir : yX0_allAir.cls ≠ "java/lang/invoke/MethodHandle" ∧ yX0_allAir.cls ≠ "java/lang/invoke/VarHandle" ∧ (parseMethodDescriptor yX0_allAir.desc).map (fun d => d.parameters.length) = some 0 := by decide +kernel
theorem hdS_X0_beatAgainst : yX0_beatAgainst.cls ≠ "java/lang/invoke/MethodHandle" ∧ yX0_beatAgainst.cls ≠ "java/lang/invoke/VarHandle" ∧ (parseMethodDescriptor yX0_beatAgainst.desc).map (fun d => d.parameters.length) = some 2 := by decide +kernel
theorem hdS_X0_glassesBeatingAgainst : yX0_glassesBeatingAgainst.cls ≠ "java/lang/invoke/MethodHandle" ∧ yX0_glassesBeatingAgainst.cls ≠ "java/lang/invoke/VarHandle" ∧ (parseMethodDescriptor yX0_glassesBeatingAgainst.desc).map (fun d => d.parameters.length) = some 1 := by decide +kernel
theorem hdS_X0_pairsBeating : yX0_pairsBeating.cls ≠ "java/lang/invoke/MethodHandle" ∧ yX0_pairsBeating.cls ≠ "java/lang/invoke/VarHandle" ∧ (parseMethodDescriptor yX0_pairsBeating.desc).map (fun d => d.parameters.length) = some 0 := by decide +kernel
theorem hdS_X0_letGoBy : yX0_letGoBy.cls ≠ "java/lang/invoke/MethodHandle" ∧ yX0_letGoBy.cls ≠ "java/lang/invoke/VarHandle" ∧ (parseMethodDescriptor yX0_letGoBy.desc).map (fun d => d.parameters.length) = some 1 := by decide +kernel
theorem hdS_X0_fillBellows : yX0_fillBellows.cls ≠ "java/lang/invoke/MethodHandle" ∧ yX0_fillBellows.cls ≠ "java/lang/invoke/VarHandle" ∧ (parseMethodDescriptor yX0_fillBellows.desc).map (fun d => d.parameters.length) = some 0 := by decide +kernel
theorem hdS_X0_playNotes : yX0_playNotes.cls ≠ "java/lang/invoke/MethodHandle" ∧ yX0_playNotes.cls ≠ "java/lang/invoke/VarHandle" ∧ (parseMethodDescriptor yX0_playNotes.desc).map (fun d => d.parameters.length) = some 0 := by decide +kernel
theorem hdS_X0_playerFor : yX0_playerFor.cls ≠ "java/lang/invoke/MethodHandle" ∧ yX0_playerFor.cls ≠ "java/lang/invoke/VarHandle" ∧ (parseMethodDescriptor yX0_playerFor.desc).map (fun d => d.parameters.length) = some 2 := by decide +kernel
theorem hdS_X0_hasAir : yX0_hasAir.cls ≠ "java/lang/invoke/MethodHandle" ∧ yX0_hasAir.cls ≠ "java/lang/invoke/VarHandle" ∧ (parseMethodDescriptor yX0_hasAir.desc).map (fun d => d.parameters.length) = some 2 := by decide +kernel
theorem hdS_X0_rub : yX0_rub.cls ≠ "java/lang/invoke/MethodHandle" ∧ yX0_rub.cls ≠ "java/lang/invoke/VarHandle" ∧ (parseMethodDescriptor yX0_rub.desc).map (fun d => d.parameters.length) = some 3 := by decide +kernel
theorem hdS_X0_fadeAndDry : yX0_fadeAndDry.cls ≠ "java/lang/invoke/MethodHandle" ∧ yX0_fadeAndDry.cls ≠ "java/lang/invoke/VarHandle" ∧ (parseMethodDescriptor yX0_fadeAndDry.desc).map (fun d => d.parameters.length) = some 0 := by decide +kernel
theorem hdS_X1_init : yX1_init.cls ≠ "java/lang/invoke/MethodHandle" ∧ yX1_init.cls ≠ "java/lang/invoke/VarHandle" ∧ (parseMethodDescriptor yX1_init.desc).map (fun d => d.parameters.length) = some 0 := by decide +kernel
theorem hdS_X1_hasNote : yX1_hasNote.cls ≠ "java/lang/invoke/MethodHandle" ∧ yX1_hasNote.cls ≠ "java/lang/invoke/VarHandle" ∧ (parseMethodDescriptor yX1_hasNote.desc).map (fun d => d.parameters.length) = some 1 := by decide +kernel
theorem hdS_X1_write : yX1_write.cls ≠ "java/lang/invoke/MethodHandle" ∧ yX1_write.cls ≠ "java/lang/invoke/VarHandle" ∧ (parseMethodDescriptor yX1_write.desc).map (fun d => d.parameters.length) = some 3 := by decide +kernel
theorem hdS_X1_takeOut : yX1_takeOut.cls ≠ "java/lang/invoke/MethodHandle" ∧ yX1_takeOut.cls ≠ "java/lang/invoke/VarHandle" ∧ (parseMethodDescriptor yX1_takeOut.desc).map (fun d => d.parameters.length) = some 1 := by decide +kernel
theorem hdS_X1_beatAt : yX1_beatAt.cls ≠ "java/lang/invoke/MethodHandle" ∧ yX1_beatAt.cls ≠ "java/lang/invoke/VarHandle" ∧ (parseMethodDescriptor yX1_beatAt.desc).map (fun d => d.parameters.length) = some 1 := by decide +kernel
theorem hdS_X2_init : yX2_init.cls ≠ "java/lang/invoke/MethodHandle" ∧ yX2_init.cls ≠ "java/lang/invoke/VarHandle" ∧ (parseMethodDescriptor yX2_init.desc).map (fun d => d.parameters.length) = some 0 := by decide +kernel
theorem hdS_X2_set : yX2_set.cls ≠ "java/lang/invoke/MethodHandle" ∧ yX2_set.cls ≠ "java/lang/invoke/VarHandle" ∧ (parseMethodDescriptor yX2_set.desc).map (fun d => d.parameters.length) = some 3 := by decide +kernel
theorem hdS_X2_drop : yX2_drop.cls ≠ "java/lang/invoke/MethodHandle" ∧ yX2_drop.cls ≠ "java/lang/invoke/VarHandle" ∧ (parseMethodDescriptor yX2_drop.desc).map (fun d => d.parameters.length) = some 2 := by decide +kernel
theorem hdS_X2_pump : yX2_pump.cls ≠ "java/lang/invoke/MethodHandle" ∧ yX2_pump.cls ≠ "java/lang/invoke/VarHandle" ∧ (parseMethodDescriptor yX2_pump.desc).map (fun d => d.parameters.length) = some 2 := by decide +kernel
theorem hdS_X2_glass : yX2_glass.cls ≠ "java/lang/invoke/MethodHandle" ∧ yX2_glass.cls ≠ "java/lang/invoke/VarHandle" ∧ (parseMethodDescriptor yX2_glass.desc).map (fun d => d.parameters.length) = some 2 := by decide +kernel
theorem hdS_X2_row : yX2_row.cls ≠ "java/lang/invoke/MethodHandle" ∧ yX2_row.cls ≠ "java/lang/invoke/VarHandle" ∧ (parseMethodDescriptor yX2_row.desc).map (fun d => d.parameters.length) = some 2 := by decide +kernel
theorem hdS_X2_setLength : yX2_setLength.cls ≠ "java/lang/invoke/MethodHandle" ∧ yX2_setLength.cls ≠ "java/lang/invoke/VarHandle" ∧ (parseMethodDescriptor yX2_setLength.desc).map (fun d => d.parameters.length) = some 1 := by decide +kernel
theorem hdS_X2_note : yX2_note.cls ≠ "java/lang/invoke/MethodHandle" ∧ yX2_note.cls ≠ "java/lang/invoke/VarHandle" ∧ (parseMethodDescriptor yX2_note.desc).map (fun d => d.parameters.length) = some 3 := by decide +kernel
theorem hdS_X2_strike : yX2_strike.cls ≠ "java/lang/invoke/MethodHandle" ∧ yX2_strike.cls ≠ "java/lang/invoke/VarHandle" ∧ (parseMethodDescriptor yX2_strike.desc).map (fun d => d.parameters.length) = some 1 := by decide +kernel
theorem hdS_X2_written : yX2_written.cls ≠ "java/lang/invoke/MethodHandle" ∧ yX2_written.cls ≠ "java/lang/invoke/VarHandle" ∧ (parseMethodDescriptor yX2_written.desc).map (fun d => d.parameters.length) = some 2 := by decide +kernel
theorem hdS_X2_play : yX2_play.cls ≠ "java/lang/invoke/MethodHandle" ∧ yX2_play.cls ≠ "java/lang/invoke/VarHandle" ∧ (parseMethodDescriptor yX2_play.desc).map (fun d => d.parameters.length) = some 1 := by decide +kernel
theorem hdS_X2_count : yX2_count.cls ≠ "java/lang/invoke/MethodHandle" ∧ yX2_count.cls ≠ "java/lang/invoke/VarHandle" ∧ (parseMethodDescriptor yX2_count.desc).map (fun d => d.parameters.length) = some 1 := by decide +kernel
theorem hdS_X2_needs : yX2_needs.cls ≠ "java/lang/invoke/MethodHandle" ∧ yX2_needs.cls ≠ "java/lang/invoke/VarHandle" ∧ (parseMethodDescriptor yX2_needs.desc).map (fun d => d.parameters.length) = some 2 := by decide +kernel
theorem hdS_X2_foresee : yX2_foresee.cls ≠ "java/lang/invoke/MethodHandle" ∧ yX2_foresee.cls ≠ "java/lang/invoke/VarHandle" ∧ (parseMethodDescriptor yX2_foresee.desc).map (fun d => d.parameters.length) = some 2 := by decide +kernel
theorem hdS_X2_advise : yX2_advise.cls ≠ "java/lang/invoke/MethodHandle" ∧ yX2_advise.cls ≠ "java/lang/invoke/VarHandle" ∧ (parseMethodDescriptor yX2_advise.desc).map (fun d => d.parameters.length) = some 2 := by decide +kernel
theorem hdS_X2_wants : yX2_wants.cls ≠ "java/lang/invoke/MethodHandle" ∧ yX2_wants.cls ≠ "java/lang/invoke/VarHandle" ∧ (parseMethodDescriptor yX2_wants.desc).map (fun d => d.parameters.length) = some 2 := by decide +kernel
theorem hdS_X2_mean : yX2_mean.cls ≠ "java/lang/invoke/MethodHandle" ∧ yX2_mean.cls ≠ "java/lang/invoke/VarHandle" ∧ (parseMethodDescriptor yX2_mean.desc).map (fun d => d.parameters.length) = some 0 := by decide +kernel
theorem hdS_X2_digest : yX2_digest.cls ≠ "java/lang/invoke/MethodHandle" ∧ yX2_digest.cls ≠ "java/lang/invoke/VarHandle" ∧ (parseMethodDescriptor yX2_digest.desc).map (fun d => d.parameters.length) = some 0 := by decide +kernel
theorem hdS_X2_inTuneIfTuned : yX2_inTuneIfTuned.cls ≠ "java/lang/invoke/MethodHandle" ∧ yX2_inTuneIfTuned.cls ≠ "java/lang/invoke/VarHandle" ∧ (parseMethodDescriptor yX2_inTuneIfTuned.desc).map (fun d => d.parameters.length) = some 3 := by decide +kernel
theorem hdS_X2_missedIfPumped : yX2_missedIfPumped.cls ≠ "java/lang/invoke/MethodHandle" ∧ yX2_missedIfPumped.cls ≠ "java/lang/invoke/VarHandle" ∧ (parseMethodDescriptor yX2_missedIfPumped.desc).map (fun d => d.parameters.length) = some 3 := by decide +kernel
theorem hdS_X2_digested : yX2_digested.cls ≠ "java/lang/invoke/MethodHandle" ∧ yX2_digested.cls ≠ "java/lang/invoke/VarHandle" ∧ (parseMethodDescriptor yX2_digested.desc).map (fun d => d.parameters.length) = some 2 := by decide +kernel
theorem hdS_X2_isWithin : yX2_isWithin.cls ≠ "java/lang/invoke/MethodHandle" ∧ yX2_isWithin.cls ≠ "java/lang/invoke/VarHandle" ∧ (parseMethodDescriptor yX2_isWithin.desc).map (fun d => d.parameters.length) = some 3 := by decide +kernel
theorem hdS_X2_distance : yX2_distance.cls ≠ "java/lang/invoke/MethodHandle" ∧ yX2_distance.cls ≠ "java/lang/invoke/VarHandle" ∧ (parseMethodDescriptor yX2_distance.desc).map (fun d => d.parameters.length) = some 2 := by decide +kernel
theorem hdS_X3_init : yX3_init.cls ≠ "java/lang/invoke/MethodHandle" ∧ yX3_init.cls ≠ "java/lang/invoke/VarHandle" ∧ (parseMethodDescriptor yX3_init.desc).map (fun d => d.parameters.length) = some 1 := by decide +kernel
theorem hdS_X3_copy : yX3_copy.cls ≠ "java/lang/invoke/MethodHandle" ∧ yX3_copy.cls ≠ "java/lang/invoke/VarHandle" ∧ (parseMethodDescriptor yX3_copy.desc).map (fun d => d.parameters.length) = some 2 := by decide +kernel
theorem hdS_X3_become : yX3_become.cls ≠ "java/lang/invoke/MethodHandle" ∧ yX3_become.cls ≠ "java/lang/invoke/VarHandle" ∧ (parseMethodDescriptor yX3_become.desc).map (fun d => d.parameters.length) = some 1 := by decide +kernel
theorem hdS_X3_tone : yX3_tone.cls ≠ "java/lang/invoke/MethodHandle" ∧ yX3_tone.cls ≠ "java/lang/invoke/VarHandle" ∧ (parseMethodDescriptor yX3_tone.desc).map (fun d => d.parameters.length) = some 1 := by decide +kernel
theorem hdS_X3_off : yX3_off.cls ≠ "java/lang/invoke/MethodHandle" ∧ yX3_off.cls ≠ "java/lang/invoke/VarHandle" ∧ (parseMethodDescriptor yX3_off.desc).map (fun d => d.parameters.length) = some 2 := by decide +kernel
theorem hdS_X3_come : yX3_come.cls ≠ "java/lang/invoke/MethodHandle" ∧ yX3_come.cls ≠ "java/lang/invoke/VarHandle" ∧ (parseMethodDescriptor yX3_come.desc).map (fun d => d.parameters.length) = some 2 := by decide +kernel
theorem hdS_X3_pass : yX3_pass.cls ≠ "java/lang/invoke/MethodHandle" ∧ yX3_pass.cls ≠ "java/lang/invoke/VarHandle" ∧ (parseMethodDescriptor yX3_pass.desc).map (fun d => d.parameters.length) = some 0 := by decide +kernel
theorem hdS_X3_cracked : yX3_cracked.cls ≠ "java/lang/invoke/MethodHandle" ∧ yX3_cracked.cls ≠ "java/lang/invoke/VarHandle" ∧ (parseMethodDescriptor yX3_cracked.desc).map (fun d => d.parameters.length) = some 0 := by decide +kernel
theorem hdS_X3_isAgainst : yX3_isAgainst.cls ≠ "java/lang/invoke/MethodHandle" ∧ yX3_isAgainst.cls ≠ "java/lang/invoke/VarHandle" ∧ (parseMethodDescriptor yX3_isAgainst.desc).map (fun d => d.parameters.length) = some 2 := by decide +kernel
theorem hdS_X4_init : yX4_init.cls ≠ "java/lang/invoke/MethodHandle" ∧ yX4_init.cls ≠ "java/lang/invoke/VarHandle" ∧ (parseMethodDescriptor yX4_init.desc).map (fun d => d.parameters.length) = some 0 := by decide +kernel
theorem hdS_X4_thrown : yX4_thrown.cls ≠ "java/lang/invoke/MethodHandle" ∧ yX4_thrown.cls ≠ "java/lang/invoke/VarHandle" ∧ (parseMethodDescriptor yX4_thrown.desc).map (fun d => d.parameters.length) = some 0 := by decide +kernel
theorem hdS_X4_no : yX4_no.cls ≠ "java/lang/invoke/MethodHandle" ∧ yX4_no.cls ≠ "java/lang/invoke/VarHandle" ∧ (parseMethodDescriptor yX4_no.desc).map (fun d => d.parameters.length) = some 1 := by decide +kernel
theorem hdS_X4_isIn : yX4_isIn.cls ≠ "java/lang/invoke/MethodHandle" ∧ yX4_isIn.cls ≠ "java/lang/invoke/VarHandle" ∧ (parseMethodDescriptor yX4_isIn.desc).map (fun d => d.parameters.length) = some 3 := by decide +kernel
theorem hdS_X4_isGlass : yX4_isGlass.cls ≠ "java/lang/invoke/MethodHandle" ∧ yX4_isGlass.cls ≠ "java/lang/invoke/VarHandle" ∧ (parseMethodDescriptor yX4_isGlass.desc).map (fun d => d.parameters.length) = some 1 := by decide +kernel
theorem hdS_X4_isRow : yX4_isRow.cls ≠ "java/lang/invoke/MethodHandle" ∧ yX4_isRow.cls ≠ "java/lang/invoke/VarHandle" ∧ (parseMethodDescriptor yX4_isRow.desc).map (fun d => d.parameters.length) = some 1 := by decide +kernel
theorem hdS_X4_set : yX4_set.cls ≠ "java/lang/invoke/MethodHandle" ∧ yX4_set.cls ≠ "java/lang/invoke/VarHandle" ∧ (parseMethodDescriptor yX4_set.desc).map (fun d => d.parameters.length) = some 3 := by decide +kernel
theorem hdS_X4_drop : yX4_drop.cls ≠ "java/lang/invoke/MethodHandle" ∧ yX4_drop.cls ≠ "java/lang/invoke/VarHandle" ∧ (parseMethodDescriptor yX4_drop.desc).map (fun d => d.parameters.length) = some 2 := by decide +kernel
theorem hdS_X4_pump : yX4_pump.cls ≠ "java/lang/invoke/MethodHandle" ∧ yX4_pump.cls ≠ "java/lang/invoke/VarHandle" ∧ (parseMethodDescriptor yX4_pump.desc).map (fun d => d.parameters.length) = some 2 := by decide +kernel
theorem hdS_X4_against : yX4_against.cls ≠ "java/lang/invoke/MethodHandle" ∧ yX4_against.cls ≠ "java/lang/invoke/VarHandle" ∧ (parseMethodDescriptor yX4_against.desc).map (fun d => d.parameters.length) = some 1 := by decide +kernel
theorem hdS_X4_glassTold : yX4_glassTold.cls ≠ "java/lang/invoke/MethodHandle" ∧ yX4_glassTold.cls ≠ "java/lang/invoke/VarHandle" ∧ (parseMethodDescriptor yX4_glassTold.desc).map (fun d => d.parameters.length) = some 2 := by decide +kernel
theorem hdS_X4_glass : yX4_glass.cls ≠ "java/lang/invoke/MethodHandle" ∧ yX4_glass.cls ≠ "java/lang/invoke/VarHandle" ∧ (parseMethodDescriptor yX4_glass.desc).map (fun d => d.parameters.length) = some 2 := by decide +kernel
theorem hdS_X4_rowTold : yX4_rowTold.cls ≠ "java/lang/invoke/MethodHandle" ∧ yX4_rowTold.cls ≠ "java/lang/invoke/VarHandle" ∧ (parseMethodDescriptor yX4_rowTold.desc).map (fun d => d.parameters.length) = some 2 := by decide +kernel
theorem hdS_X4_row : yX4_row.cls ≠ "java/lang/invoke/MethodHandle" ∧ yX4_row.cls ≠ "java/lang/invoke/VarHandle" ∧ (parseMethodDescriptor yX4_row.desc).map (fun d => d.parameters.length) = some 2 := by decide +kernel
theorem hdS_X4_setLength : yX4_setLength.cls ≠ "java/lang/invoke/MethodHandle" ∧ yX4_setLength.cls ≠ "java/lang/invoke/VarHandle" ∧ (parseMethodDescriptor yX4_setLength.desc).map (fun d => d.parameters.length) = some 1 := by decide +kernel
theorem hdS_X4_note : yX4_note.cls ≠ "java/lang/invoke/MethodHandle" ∧ yX4_note.cls ≠ "java/lang/invoke/VarHandle" ∧ (parseMethodDescriptor yX4_note.desc).map (fun d => d.parameters.length) = some 3 := by decide +kernel
theorem hdS_X4_strike : yX4_strike.cls ≠ "java/lang/invoke/MethodHandle" ∧ yX4_strike.cls ≠ "java/lang/invoke/VarHandle" ∧ (parseMethodDescriptor yX4_strike.desc).map (fun d => d.parameters.length) = some 1 := by decide +kernel
theorem hdS_X4_written : yX4_written.cls ≠ "java/lang/invoke/MethodHandle" ∧ yX4_written.cls ≠ "java/lang/invoke/VarHandle" ∧ (parseMethodDescriptor yX4_written.desc).map (fun d => d.parameters.length) = some 2 := by decide +kernel
theorem hdS_X4_play : yX4_play.cls ≠ "java/lang/invoke/MethodHandle" ∧ yX4_play.cls ≠ "java/lang/invoke/VarHandle" ∧ (parseMethodDescriptor yX4_play.desc).map (fun d => d.parameters.length) = some 1 := by decide +kernel
theorem hdS_X4_counted : yX4_counted.cls ≠ "java/lang/invoke/MethodHandle" ∧ yX4_counted.cls ≠ "java/lang/invoke/VarHandle" ∧ (parseMethodDescriptor yX4_counted.desc).map (fun d => d.parameters.length) = some 1 := by decide +kernel
theorem hdS_X4_count : yX4_count.cls ≠ "java/lang/invoke/MethodHandle" ∧ yX4_count.cls ≠ "java/lang/invoke/VarHandle" ∧ (parseMethodDescriptor yX4_count.desc).map (fun d => d.parameters.length) = some 1 := by decide +kernel
theorem hdS_X4_needed : yX4_needed.cls ≠ "java/lang/invoke/MethodHandle" ∧ yX4_needed.cls ≠ "java/lang/invoke/VarHandle" ∧ (parseMethodDescriptor yX4_needed.desc).map (fun d => d.parameters.length) = some 2 := by decide +kernel
theorem hdS_X4_needs : yX4_needs.cls ≠ "java/lang/invoke/MethodHandle" ∧ yX4_needs.cls ≠ "java/lang/invoke/VarHandle" ∧ (parseMethodDescriptor yX4_needs.desc).map (fun d => d.parameters.length) = some 2 := by decide +kernel
theorem hdS_X4_run : yX4_run.cls ≠ "java/lang/invoke/MethodHandle" ∧ yX4_run.cls ≠ "java/lang/invoke/VarHandle" ∧ (parseMethodDescriptor yX4_run.desc).map (fun d => d.parameters.length) = some 1 := by decide +kernel
theorem hdS_X4_foresee : yX4_foresee.cls ≠ "java/lang/invoke/MethodHandle" ∧ yX4_foresee.cls ≠ "java/lang/invoke/VarHandle" ∧ (parseMethodDescriptor yX4_foresee.desc).map (fun d => d.parameters.length) = some 2 := by decide +kernel
theorem hdS_X4_advise : yX4_advise.cls ≠ "java/lang/invoke/MethodHandle" ∧ yX4_advise.cls ≠ "java/lang/invoke/VarHandle" ∧ (parseMethodDescriptor yX4_advise.desc).map (fun d => d.parameters.length) = some 2 := by decide +kernel
theorem hdS_X4_missedWith : yX4_missedWith.cls ≠ "java/lang/invoke/MethodHandle" ∧ yX4_missedWith.cls ≠ "java/lang/invoke/VarHandle" ∧ (parseMethodDescriptor yX4_missedWith.desc).map (fun d => d.parameters.length) = some 3 := by decide +kernel
theorem hdS_X4_wants : yX4_wants.cls ≠ "java/lang/invoke/MethodHandle" ∧ yX4_wants.cls ≠ "java/lang/invoke/VarHandle" ∧ (parseMethodDescriptor yX4_wants.desc).map (fun d => d.parameters.length) = some 2 := by decide +kernel
theorem hdS_X4_mean : yX4_mean.cls ≠ "java/lang/invoke/MethodHandle" ∧ yX4_mean.cls ≠ "java/lang/invoke/VarHandle" ∧ (parseMethodDescriptor yX4_mean.desc).map (fun d => d.parameters.length) = some 0 := by decide +kernel
theorem hdS_X4_digest : yX4_digest.cls ≠ "java/lang/invoke/MethodHandle" ∧ yX4_digest.cls ≠ "java/lang/invoke/VarHandle" ∧ (parseMethodDescriptor yX4_digest.desc).map (fun d => d.parameters.length) = some 0 := by decide +kernel
theorem hdS_L_set : yL_set.cls ≠ "java/lang/invoke/MethodHandle" ∧ yL_set.cls ≠ "java/lang/invoke/VarHandle" ∧ (parseMethodDescriptor yL_set.desc).map (fun d => d.parameters.length) = some 5 := by decide +kernel
theorem hdS_L_drop : yL_drop.cls ≠ "java/lang/invoke/MethodHandle" ∧ yL_drop.cls ≠ "java/lang/invoke/VarHandle" ∧ (parseMethodDescriptor yL_drop.desc).map (fun d => d.parameters.length) = some 4 := by decide +kernel
theorem hdS_L_pump : yL_pump.cls ≠ "java/lang/invoke/MethodHandle" ∧ yL_pump.cls ≠ "java/lang/invoke/VarHandle" ∧ (parseMethodDescriptor yL_pump.desc).map (fun d => d.parameters.length) = some 4 := by decide +kernel
theorem hdS_L_glass : yL_glass.cls ≠ "java/lang/invoke/MethodHandle" ∧ yL_glass.cls ≠ "java/lang/invoke/VarHandle" ∧ (parseMethodDescriptor yL_glass.desc).map (fun d => d.parameters.length) = some 4 := by decide +kernel
theorem hdS_L_row : yL_row.cls ≠ "java/lang/invoke/MethodHandle" ∧ yL_row.cls ≠ "java/lang/invoke/VarHandle" ∧ (parseMethodDescriptor yL_row.desc).map (fun d => d.parameters.length) = some 4 := by decide +kernel
theorem hdS_L_setLength : yL_setLength.cls ≠ "java/lang/invoke/MethodHandle" ∧ yL_setLength.cls ≠ "java/lang/invoke/VarHandle" ∧ (parseMethodDescriptor yL_setLength.desc).map (fun d => d.parameters.length) = some 3 := by decide +kernel
theorem hdS_L_note : yL_note.cls ≠ "java/lang/invoke/MethodHandle" ∧ yL_note.cls ≠ "java/lang/invoke/VarHandle" ∧ (parseMethodDescriptor yL_note.desc).map (fun d => d.parameters.length) = some 5 := by decide +kernel
theorem hdS_L_strike : yL_strike.cls ≠ "java/lang/invoke/MethodHandle" ∧ yL_strike.cls ≠ "java/lang/invoke/VarHandle" ∧ (parseMethodDescriptor yL_strike.desc).map (fun d => d.parameters.length) = some 3 := by decide +kernel
theorem hdS_L_written : yL_written.cls ≠ "java/lang/invoke/MethodHandle" ∧ yL_written.cls ≠ "java/lang/invoke/VarHandle" ∧ (parseMethodDescriptor yL_written.desc).map (fun d => d.parameters.length) = some 4 := by decide +kernel
theorem hdS_L_play : yL_play.cls ≠ "java/lang/invoke/MethodHandle" ∧ yL_play.cls ≠ "java/lang/invoke/VarHandle" ∧ (parseMethodDescriptor yL_play.desc).map (fun d => d.parameters.length) = some 3 := by decide +kernel
theorem hdS_L_count : yL_count.cls ≠ "java/lang/invoke/MethodHandle" ∧ yL_count.cls ≠ "java/lang/invoke/VarHandle" ∧ (parseMethodDescriptor yL_count.desc).map (fun d => d.parameters.length) = some 3 := by decide +kernel
theorem hdS_L_needs : yL_needs.cls ≠ "java/lang/invoke/MethodHandle" ∧ yL_needs.cls ≠ "java/lang/invoke/VarHandle" ∧ (parseMethodDescriptor yL_needs.desc).map (fun d => d.parameters.length) = some 4 := by decide +kernel
theorem hdS_L_foresee : yL_foresee.cls ≠ "java/lang/invoke/MethodHandle" ∧ yL_foresee.cls ≠ "java/lang/invoke/VarHandle" ∧ (parseMethodDescriptor yL_foresee.desc).map (fun d => d.parameters.length) = some 4 := by decide +kernel
theorem hdS_L_advise : yL_advise.cls ≠ "java/lang/invoke/MethodHandle" ∧ yL_advise.cls ≠ "java/lang/invoke/VarHandle" ∧ (parseMethodDescriptor yL_advise.desc).map (fun d => d.parameters.length) = some 4 := by decide +kernel
theorem hdS_L_wants : yL_wants.cls ≠ "java/lang/invoke/MethodHandle" ∧ yL_wants.cls ≠ "java/lang/invoke/VarHandle" ∧ (parseMethodDescriptor yL_wants.desc).map (fun d => d.parameters.length) = some 4 := by decide +kernel
end
section
/-! The layer between the kit and the contracts of this claim: one world shape for all methods. -/
abbrev gh_G : Type := va_G × ClassId × ClassId × ClassId
abbrev gh_ty (G : gh_G) : List (ClassId × FieldType) := [(G.2.1, .int), (G.2.2.1, .boolean), (G.2.2.2, .long)]
abbrev gh_B : Type := Nat → Nat → Int32
def gh_st (o : gh_B) (k : Nat) (f : Nat → Int32) : gh_B := fun j => cond (Nat.beq j k) f (o j)
theorem gh_ss (o : gh_B) (k : Nat) (f : Nat → Int32) : gh_st o k f k = f := by simp [gh_st]
theorem gh_sn (o : gh_B) {k j : Nat} (f : Nat → Int32) (h : j ≠ k) : gh_st o k f j = o j := by
  unfold gh_st
  cases hb : Nat.beq j k with
  | false => rfl
  | true => exact absurd (Nat.eq_of_beq_eq_true hb) h
def gh_nM : List (String × Nat × MethodName × String) := [(RX2, 9, yX1_init, RX2), (RX2, 18, yX0_init, RX2), (RX2, 166, yX0_crackedGlasses, RX2), (RX2, 176, yX0_allAir, RX2), (RX2, 179, yX0_pairsBeating, RX2), (RX0, 94, yX2_distance, RX2), (RX0, 60, yX2_isWithin, RX2), (RX2, 50, yX0_hasGlass, RX2), (RX2, 77, yX0_toneOf, RX2), (RX2, 101, yX0_glassesBeatingAgainst, RX2), (RX2, 109, yX0_glassesInRow, RX2), (RX2, 130, yX1_hasNote, RX2), (RX2, 41, yX0_addGlass, RX2), (RX2, 71, yX0_mostDrops, RX2), (RX2, 122, yX1_write, RX2), (RX2, 138, yX1_takeOut, RX2), (RX2, 155, yX0_letGoBy, RX2), (RX0, 115, yX1_beatAt, RX2), (RX2, 184, yX0_fewestDropsFor, RX2), (RX2, 192, yX0_takeOver, RX2), (RX2, 198, yX0_canBeTuned, RX2), (RX2, 226, yX0_tuneTo, RX2), (RX2, 230, yX0_setPump, RX2), (RX4, 25, yX3_init, RX4)]
def gh_nF : List (String × Nat × String × String × String × String) := [(RX2, 144, "GlassHarp$Score", "beats", "[I", RX2), (RX0, 123, "GlassHarp$Score", "beats", "[I", RX2), (RX2, 135, "GlassHarp$Score", "tones", "[I", RX2), (RX0, 126, "GlassHarp$Score", "tones", "[I", RX2), (RX2, 147, "GlassHarp$Score", "forces", "[I", RX2), (RX0, 129, "GlassHarp$Score", "forces", "[I", RX2), (RX2, 127, "GlassHarp$Score", "notes", "I", RX2), (RX0, 120, "GlassHarp$Score", "notes", "I", RX2), (RX2, 114, "GlassHarp$Score", "length", "I", RX2), (RX2, 89, "GlassHarp$Orchestra", "rows", "[I", RX2), (RX2, 92, "GlassHarp$Orchestra", "sizes", "[I", RX2), (RX2, 67, "GlassHarp$Orchestra", "drops", "[I", RX2), (RX2, 61, "GlassHarp$Orchestra", "cracked", "[Z", RX2), (RX2, 95, "GlassHarp$Orchestra", "rings", "[I", RX2), (RX2, 98, "GlassHarp$Orchestra", "plays", "[I", RX2), (RX2, 106, "GlassHarp$Orchestra", "air", "[I", RX2), (RX2, 84, "GlassHarp$Orchestra", "pumps", "[I", RX2), (RX2, 163, "GlassHarp$Orchestra", "glasses", "I", RX2), (RX2, 160, "GlassHarp$Orchestra", "beat", "I", RX2), (RX2, 152, "GlassHarp$Orchestra", "played", "I", RX2), (RX2, 170, "GlassHarp$Orchestra", "inTune", "I", RX2), (RX2, 173, "GlassHarp$Orchestra", "missed", "I", RX2), (RX4, 106, "GlassHarpModel$State", "beat", "I", RX4), (RX4, 100, "GlassHarpModel$State", "played", "I", RX4), (RX4, 113, "GlassHarpModel$State", "tuned", "I", RX4), (RX4, 116, "GlassHarpModel$State", "missed", "I", RX4), (RX4, 85, "GlassHarpModel$State", "air", "[I", RX4), (RX4, 65, "GlassHarpModel$State", "pump", "[I", RX4), (RX4, 53, "GlassHarpModel$State", "drops", "[I", RX4), (RX4, 59, "GlassHarpModel$State", "broken", "[I", RX4), (RX4, 72, "GlassHarpModel$State", "ring", "[I", RX4), (RX4, 75, "GlassHarpModel$State", "times", "[I", RX4), (RX3, 94, "GlassHarpModel", "length", "I", RX4), (RX3, 88, "GlassHarpModel", "notes", "I", RX4), (RX3, 91, "GlassHarpModel", "score", "[I", RX4), (RX3, 73, "GlassHarpModel", "glasses", "I", RX4), (RX3, 79, "GlassHarpModel", "row", "[I", RX4), (RX3, 57, "GlassHarpModel", "size", "[I", RX4)]
def gh_nest (U : State) : Prop := (∀ q ∈ gh_nM, va_Nw (.methodLinkNest q.1 q.2.1 q.2.2.1 q.2.2.2) U) ∧ ∀ q ∈ gh_nF, va_Nw (.fieldLinkNest q.1 q.2.1 q.2.2.1 q.2.2.2.1 q.2.2.2.2.1 q.2.2.2.2.2) U
theorem gh_nest.warm {s U : State} (hW : s.WarmedH U.vm) (h : gh_nest s) : gh_nest U := ⟨fun q hq => va_Nw.warmM hW (h.1 q hq), fun q hq => va_Nw.warmF hW (h.2 q hq)⟩
theorem gh_nest.same {u U : State} (hv : u.vm = U.vm) (h : gh_nest u) : gh_nest U := ⟨fun q hq => va_Nw.same rfl hv (h.1 q hq), fun q hq => va_Nw.same rfl hv (h.2 q hq)⟩
def gh_E (G : gh_G) (U : State) : Prop := va_K G.1 vwCl (gh_ty G) U ∧ gh_nest U
theorem gh_E.warm {G : gh_G} {s U : State} (hW : s.WarmedH U.vm) (h : gh_E G s) : gh_E G U := ⟨va_K.moved hW.alike h.1, h.2.warm hW⟩
theorem gh_E.same {G : gh_G} {u U : State} (hv : u.vm = U.vm) (h : gh_E G u) : gh_E G U := ⟨va_K.moved (u := u) (U := U) (by rw [hv]; exact Vm.Alike.refl U.vm) h.1, h.2.same hv⟩
/-- the start of a method that only reads: its world, what the tables say -/
def gh_r (G : gh_G) (av : List Value) (ws : va_W) : Array Value → State → Prop := va_Pc av (fun U => va_P G.1 vwCl ws U.heap ∧ gh_E G U)
theorem gh_rb {G : gh_G} {av : List Value} {ws : va_W} : FrameBlind (gh_r G av ws) := fun a U g mk q => ⟨q.1, q.2.1, q.2.2.same rfl⟩
theorem gh_rS {G : gh_G} {s : State} {H : Heap} {As : List Value} {ws : va_W} (hE : gh_E G s) (hP : va_P G.1 vwCl ws H) : PreS s H (gh_r G As ws) As := ⟨gh_rb, fun U hU hW => ⟨rfl, by rw [hU]; exact hP, hE.warm hW⟩⟩
theorem gh_rV {G : gh_G} {s : State} {H : Heap} {As : List Value} {ws : va_W} {C : String} {T : u_T} {N ci q0 : Nat} {b : Nat} {fs : List Value} (hE : gh_E G s) (hP : va_P G.1 vwCl ws H) (hc : vwCl[ci]? = some (C, T, N)) (he : ws[q0]? = some (b, .inr (ci, fs))) : PreV s H C b (gh_r G (.ref b :: As) ws) As := ⟨gh_rb, va_recv hE.1 hP hc he, fun U hU hW => ⟨rfl, by rw [hU]; exact hP, hE.warm hW⟩⟩
/-- the start of a method that writes: its world's cells lie apart -/
def gh_w (G : gh_G) (av : List Value) (ws : va_W) (sz : Nat) : Array Value → State → Prop := va_Pc av (fun U => U.heap.size = sz ∧ va_P G.1 vwCl ws U.heap ∧ gh_E G U ∧ va_D (fun _ => True) ws)
theorem gh_wb {G : gh_G} {av : List Value} {ws : va_W} {sz : Nat} : FrameBlind (gh_w G av ws sz) := fun a U g mk q => ⟨q.1, q.2.1, q.2.2.1, q.2.2.2.1.same rfl, q.2.2.2.2⟩
theorem gh_wS {G : gh_G} {s : State} {H : Heap} {As : List Value} {ws : va_W} {A : Nat → Prop} (hE : gh_E G s) (hP : va_P G.1 vwCl ws H) (hD : va_D A ws) : PreS s H (gh_w G As ws H.size) As := ⟨gh_wb, fun U hU hW => ⟨rfl, by rw [hU], by rw [hU]; exact hP, hE.warm hW, hD.weaken (fun _ _ _ _ => trivial)⟩⟩
theorem gh_wV {G : gh_G} {s : State} {H : Heap} {As : List Value} {ws : va_W} {A : Nat → Prop} {C : String} {T : u_T} {N ci q0 : Nat} {b : Nat} {fs : List Value} (hE : gh_E G s) (hP : va_P G.1 vwCl ws H) (hD : va_D A ws) (hc : vwCl[ci]? = some (C, T, N)) (he : ws[q0]? = some (b, .inr (ci, fs))) : PreV s H C b (gh_w G (.ref b :: As) ws H.size) As := ⟨gh_wb, va_recv hE.1 hP hc he, fun U hU hW => ⟨rfl, by rw [hU], by rw [hU]; exact hP, hE.warm hW, hD.weaken (fun _ _ _ _ => trivial)⟩⟩
theorem gh_Dsame {A : Nat → Prop} {ws w1 : va_W} (h : va_D A ws) (e : w1.map (fun q => q.1) = ws.map (fun q => q.1)) : va_D A w1 := by
  have key : ∀ (k : Nat) (q : Nat × va_E), w1[k]? = some q → ∃ q0 : Nat × va_E, ws[k]? = some q0 ∧ q0.1 = q.1 := by
    intro k q hk
    have h1 : (w1.map (fun q => q.1))[k]? = some q.1 := by rw [List.getElem?_map, hk]; rfl
    rw [e, List.getElem?_map] at h1
    cases h2 : ws[k]? with
    | none => rw [h2] at h1; cases h1
    | some q0 => rw [h2] at h1; exact ⟨q0, rfl, Option.some.inj h1⟩
  refine ⟨fun i j p q hi hj hpq => ?_, fun k q hk => ?_⟩
  · obtain ⟨p0, h1, h2⟩ := key i p hi
    obtain ⟨q0, h3, h4⟩ := key j q hj
    exact h.1 i j p0 q0 h1 h3 (h2.trans (hpq.trans h4.symm))
  · obtain ⟨q0, h1, h2⟩ := key k q hk
    rw [← h2]
    exact h.2 k q0 h1
theorem gh_loop {n i0 : Nat} (h : i0 ≤ n) {P : Nat → Prop} (h0 : P n) (hs : ∀ i, i0 ≤ i → i < n → P (i + 1) → P i) : P i0 := by
  have key : ∀ d i, i + d = n → i0 ≤ i → P i := by
    intro d
    induction d with
    | zero => intro i hi _; have e : i = n := by omega
              rw [e]; exact h0
    | succ d ih => intro i hi h1; exact hs i h1 (by omega) (ih (i + 1) (by omega) (by omega))
  exact key (n - i0) i0 (by omega) (Nat.le_refl _)
theorem gh_z01 (c : Prop) [Decidable c] : narrow .boolean (.int (if c then 1 else 0)) = .int (if c then 1 else 0) := by split <;> rfl
section GHC
variable {p : Program} {l : Launch} {e : Env} {R : Room} {s : State} {m : MethodId} {args : Array Value} {below : List Frame} {meth : Method} {c : Code} {H : Heap} {locs : List Loc} {cells slots : Nat} {Q : State → Prop}
variable {pc : Nat} {ls : Array Slot} {rest st0 : List Value} {a : Array Value} {A0 A1 : Nat → Prop} {H0 : Heap} {mc ms : Nat} {free : Addr → Prop}
/-- a call that only reads and answers the number v -/
theorem gh_ci {v : Int32} (hr : va_Run p l e R s m args below meth c H locs cells slots 0 0 (F0 m pc ls st0) rest (vp_Si (fun r => r = v) a) (fun _ => False))
    (kk : W p l e R s m args below meth c H locs cells slots Q (F0 m (pc + 3) ls (.int v :: rest))) : W p l e R s m args below meth c H locs cells slots Q (F0 m pc ls st0) := by
  intro T hT X
  obtain ⟨w, st₀, t, T', L, h0, X', hL, e1, e2, ⟨r, hv, hp, hh⟩, st⟩ := hr T hT X
  cases hv
  subst hp
  obtain ⟨t2, a1, b1⟩ := kk T' (by rw [e1, hh, h0]) (Stand.forget X' (fun q h => (hL q h).elim))
  exact ⟨t2, st t2 a1, b1⟩
theorem gh_cl {v : Int64} (hr : va_Run p l e R s m args below meth c H locs cells slots 0 0 (F0 m pc ls st0) rest (vp_Sl (fun r => r = v) a) (fun _ => False))
    (kk : W p l e R s m args below meth c H locs cells slots Q (F0 m (pc + 3) ls (.long v :: rest))) : W p l e R s m args below meth c H locs cells slots Q (F0 m pc ls st0) := by
  intro T hT X
  obtain ⟨w, st₀, t, T', L, h0, X', hL, e1, e2, ⟨r, hv, hp, hh⟩, st⟩ := hr T hT X
  cases hv
  subst hp
  obtain ⟨t2, a1, b1⟩ := kk T' (by rw [e1, hh, h0]) (Stand.forget X' (fun q h => (hL q h).elim))
  exact ⟨t2, st t2 a1, b1⟩
/-- behind a call that writes: the world in its old order, the called part new -/
theorem gh_join {A0 : Nat → Prop} {D : va_G} {cl : List vw_C} {ws wc wr w1 ws' : va_W} {H H1 : Heap} (hP : va_P D cl ws H) (hD : va_D A0 ws) (isC isR pm : List Nat) (hC : isC.map (fun i => ws[i]?) = wc.map some) (hR : isR.map (fun i => ws[i]?) = wr.map some) (hn : va_nd isR = true) (hnc : va_nd isC = true) (hdis : ∀ i ∈ isR, i ∉ isC)
    (hk : ∀ q : Nat, q < H.size → ¬ va_A wc H.size q → H1[q]? = H[q]?) (hF : ∀ q, va_A wc H.size q → A0 q) (hP1 : va_P D cl w1 H1) (ad ad2 : List Nat) (e1 : w1.map (fun q => q.1) = ad) (e1' : wc.map (fun q => q.1) = ad) (hpm : pm.filterMap (fun i => (wr ++ w1)[i]?) = ws') (e2 : ws'.map (fun q => q.1) = ad2) (e2' : ws.map (fun q => q.1) = ad2) : va_P D cl ws' H1 ∧ va_D A0 ws' :=
  ⟨(va_join hP hD isC isR hC hR hn hdis hk hF hP1 (gh_Dsame (hD.sub isC hnc hC).self (e1.trans e1'.symm))).1.sub pm hpm, gh_Dsame hD (e2.trans e2'.symm)⟩
/-- a call that writes and answers nothing -/
theorem gh_cv {G : gh_G} {ws wc wr w1 ws' : va_W} (hr : va_Run p l e R s m args below meth c H locs cells slots mc ms (F0 m pc ls st0) rest (va_Qv (fun _ : Unit => True) (fun _ t => va_P G.1 vwCl w1 t.heap) (va_A wc H.size) a) (va_A wc H.size)) (hP : va_P G.1 vwCl ws H) (hD : va_D A0 ws) (hS : va_S A0 H0 H locs) (hA : ∀ q, H0.size ≤ q → A0 q)
    (isC isR pm : List Nat) (hC : isC.map (fun i => ws[i]?) = wc.map some) (hR : isR.map (fun i => ws[i]?) = wr.map some) (hn : va_nd isR = true) (hnc : va_nd isC = true) (hdis : ∀ i ∈ isR, i ∉ isC) (ad ad2 : List Nat) (e1 : w1.map (fun q => q.1) = ad) (e1' : wc.map (fun q => q.1) = ad) (hpm : pm.filterMap (fun i => (wr ++ w1)[i]?) = ws') (e2 : ws'.map (fun q => q.1) = ad2) (e2' : ws.map (fun q => q.1) = ad2)
    (kk : ∀ (H1 : Heap) (locs1 : List Loc), va_P G.1 vwCl ws' H1 → va_D A0 ws' → va_S A0 H0 H1 locs1 → W p l e R s m args below meth c H1 locs1 (cells + mc) (slots + ms) Q (F0 m (pc + 3) ls rest)) : W p l e R s m args below meth c H locs cells slots Q (F0 m pc ls st0) := by
  have hF := va_free (wc := wc) hD hS hA isC hC
  refine va_callv hr hS (fun q _ h => hF q h) hF (fun u t H1 locs1 ht hvm hw hB hz1 hk1 hS1 => ?_)
  rw [ht] at hB
  obtain ⟨hP', hD'⟩ := gh_join hP hD isC isR pm hC hR hn hnc hdis hk1 hF hB ad ad2 e1 e1' hpm e2 e2'
  exact kk H1 locs1 hP' hD' hS1
/-- a call that writes and answers the number v -/
theorem gh_cw {G : gh_G} {v : Int32} {ws wc wr w1 ws' : va_W} (hr : va_Run p l e R s m args below meth c H locs cells slots mc ms (F0 m pc ls st0) rest (va_Qi (fun (r : Int32) (_ : Unit) => r = v) (fun _ t => va_P G.1 vwCl w1 t.heap) (va_A wc H.size) a) (va_A wc H.size)) (hP : va_P G.1 vwCl ws H) (hD : va_D A0 ws) (hS : va_S A0 H0 H locs) (hA : ∀ q, H0.size ≤ q → A0 q)
    (isC isR pm : List Nat) (hC : isC.map (fun i => ws[i]?) = wc.map some) (hR : isR.map (fun i => ws[i]?) = wr.map some) (hn : va_nd isR = true) (hnc : va_nd isC = true) (hdis : ∀ i ∈ isR, i ∉ isC) (ad ad2 : List Nat) (e1 : w1.map (fun q => q.1) = ad) (e1' : wc.map (fun q => q.1) = ad) (hpm : pm.filterMap (fun i => (wr ++ w1)[i]?) = ws') (e2 : ws'.map (fun q => q.1) = ad2) (e2' : ws.map (fun q => q.1) = ad2)
    (kk : ∀ (H1 : Heap) (locs1 : List Loc), va_P G.1 vwCl ws' H1 → va_D A0 ws' → va_S A0 H0 H1 locs1 → W p l e R s m args below meth c H1 locs1 (cells + mc) (slots + ms) Q (F0 m (pc + 3) ls (.int v :: rest))) : W p l e R s m args below meth c H locs cells slots Q (F0 m pc ls st0) := by
  have hF := va_free (wc := wc) hD hS hA isC hC
  refine va_calli hr hS (fun q _ h => hF q h) hF (fun r u t H1 locs1 ht hvm hw hB hz1 hk1 hS1 => ?_)
  subst hw
  rw [ht] at hB
  obtain ⟨hP', hD'⟩ := gh_join hP hD isC isR pm hC hR hn hnc hdis hk1 hF hB ad ad2 e1 e1' hpm e2 e2'
  exact kk H1 locs1 hP' hD' hS1
end GHC
section GHL
variable {p : Program} {l : Launch} {e : Env} {R : Room} {s : State} {m : MethodId} {args : Array Value} {below : List Frame} {meth : Method} {c : Code} {H : Heap} {locs : List Loc} {cells slots : Nat} {Q : State → Prop}
variable {cc : ByteArray} {pc : Nat} {ls : Array Slot} {rest : List Value} {D : va_G} {cl : List vw_C} {A : Nat → Prop} {a : Nat} {tys : List (ClassId × FieldType)} {ws : va_W} {H0 : Heap}
/-- reading a row at a place that is a number -/
theorem gh_ia (hexec : p.tables.exec = Jvm.exec) (hb : c.code = cc) (hK : va_K D cl tys s) (hP : va_P D cl ws H) (q0 t0 : Nat) {cA : ClassId} {n : Nat} {f : Nat → Int32} (ha : ws[q0]? = some (a, .inl (cA, n, .inl f))) (ht : tys[t0]? = some (cA, .int)) {i : Int32} (j : Nat) (hi : i = nI j) (hj : j < n) (hn : n < 2 ^ 31) (hdg : decode cc pc = .ok (.iaload, 1))
    (kk : W p l e R s m args below meth c H locs cells slots Q (F0 m (pc + 1) ls (.int (f j) :: rest))) : W p l e R s m args below meth c H locs cells slots Q (F0 m pc ls (.int i :: .ref a :: rest)) := by
  subst hi
  refine va_iald hexec hb hK hP q0 t0 ha ht (vp_in_nI hj hn) hdg ?_
  rw [nI_clamp (Nat.lt_trans hj hn)]
  exact kk
theorem gh_za (hexec : p.tables.exec = Jvm.exec) (hb : c.code = cc) (hK : va_K D cl tys s) (hP : va_P D cl ws H) (q0 t0 : Nat) {cA : ClassId} {n : Nat} {f : Nat → Int32} (ha : ws[q0]? = some (a, .inl (cA, n, .inl f))) (ht : tys[t0]? = some (cA, .boolean)) {i : Int32} (j : Nat) (hi : i = nI j) (hj : j < n) (hn : n < 2 ^ 31) (hdg : decode cc pc = .ok (.baload, 1))
    (kk : W p l e R s m args below meth c H locs cells slots Q (F0 m (pc + 1) ls (.int (f j) :: rest))) : W p l e R s m args below meth c H locs cells slots Q (F0 m pc ls (.int i :: .ref a :: rest)) := by
  subst hi
  refine va_zald hexec hb hK hP q0 t0 ha ht (vp_in_nI hj hn) hdg ?_
  rw [nI_clamp (Nat.lt_trans hj hn)]
  exact kk
/-- writing a row at a place that is a number; the world behind it has a name -/
theorem gh_is {ws' : va_W} (hexec : p.tables.exec = Jvm.exec) (hb : c.code = cc) (hK : va_K D cl tys s) (hP : va_P D cl ws H) (hD : va_D A ws) (hS : va_S A H0 H locs) (q0 t0 : Nat) {cA : ClassId} {n : Nat} {f : Nat → Int32} (ha : ws[q0]? = some (a, .inl (cA, n, .inl f))) (ht : tys[t0]? = some (cA, .int)) {i : Int32} {x : Int32} (j : Nat) (hi : i = nI j) (hj : j < n) (hn : n < 2 ^ 31) (hdg : decode cc pc = .ok (.iastore, 1)) (hw : ws.set q0 (a, .inl (cA, n, .inl (upd f j x))) = ws')
    (kk : ∀ (H1 : Heap) (locs1 : List Loc), va_P D cl ws' H1 → va_D A ws' → va_S A H0 H1 locs1 → W p l e R s m args below meth c H1 locs1 cells slots Q (F0 m (pc + 1) ls rest)) : W p l e R s m args below meth c H locs cells slots Q (F0 m pc ls (.int x :: .int i :: .ref a :: rest)) := by
  subst hi
  refine va_iast hexec hb hK hP hD hS q0 t0 ha ht (vp_in_nI hj hn) hdg (fun H1 locs1 h1 h2 h3 => ?_)
  rw [nI_clamp (Nat.lt_trans hj hn), hw] at h1 h2
  exact kk H1 locs1 h1 h2 h3
theorem gh_zs {ws' : va_W} (hexec : p.tables.exec = Jvm.exec) (hb : c.code = cc) (hK : va_K D cl tys s) (hP : va_P D cl ws H) (hD : va_D A ws) (hS : va_S A H0 H locs) (q0 t0 : Nat) {cA : ClassId} {n : Nat} {f : Nat → Int32} (ha : ws[q0]? = some (a, .inl (cA, n, .inl f))) (ht : tys[t0]? = some (cA, .boolean)) {i : Int32} {x : Int32} (j : Nat) (hi : i = nI j) (hj : j < n) (hn : n < 2 ^ 31) (hdg : decode cc pc = .ok (.bastore, 1)) {y : Int32} (hy : vp_nar .boolean x = y) (hw : ws.set q0 (a, .inl (cA, n, .inl (upd f j y))) = ws')
    (kk : ∀ (H1 : Heap) (locs1 : List Loc), va_P D cl ws' H1 → va_D A ws' → va_S A H0 H1 locs1 → W p l e R s m args below meth c H1 locs1 cells slots Q (F0 m (pc + 1) ls rest)) : W p l e R s m args below meth c H locs cells slots Q (F0 m pc ls (.int x :: .int i :: .ref a :: rest)) := by
  subst hi
  refine va_zast hexec hb hK hP hD hS q0 t0 ha ht (vp_in_nI hj hn) hdg (fun H1 locs1 h1 h2 h3 => ?_)
  rw [nI_clamp (Nat.lt_trans hj hn), hy, hw] at h1 h2
  exact kk H1 locs1 h1 h2 h3
theorem gh_vv {x y : Int32} (h : x = y) (kk : W p l e R s m args below meth c H locs cells slots Q (F0 m pc ls (.int y :: rest))) : W p l e R s m args below meth c H locs cells slots Q (F0 m pc ls (.int x :: rest)) := by
  rw [h]; exact kk
end GHL
theorem gh_hp {D : va_G} {ws : va_W} {t : State} {H : Heap} (hP : va_P D vwCl ws H) (ht : t.heap = H) : va_P D vwCl ws t.heap := by rw [ht]; exact hP
theorem gh_end {A : Nat → Prop} {s t : State} {H : Heap} {locs : List Loc} {D : va_G} {ws : va_W} (hP : va_P D vwCl ws H) (hS : va_S A s.heap H locs) (ht : t.heap = H) : va_P D vwCl ws t.heap ∧ va_F A s t := ⟨by rw [ht]; exact hP, hS.F ht⟩
/-! the worlds: an orchestra, a score, the front object, a state of the model, the model -/
abbrev wO (G : gh_G) (a : Nat → Nat) (sc : Nat) (o : gh_B) : va_W := [(a 0, .inr (0, [.ref sc, .ref (a 1), .ref (a 2), .ref (a 3), .ref (a 4), .ref (a 5), .ref (a 6), .ref (a 7), .ref (a 8), .ref (a 9), .int (o 10 0), .int (o 11 0), .int (o 12 0), .int (o 13 0), .int (o 14 0)])), (a 1, .inl (G.2.1, 16, .inl (o 1))), (a 2, .inl (G.2.1, 16, .inl (o 2))), (a 3, .inl (G.2.1, 16, .inl (o 3))), (a 4, .inl (G.2.2.1, 16, .inl (o 4))), (a 5, .inl (G.2.1, 16, .inl (o 5))), (a 6, .inl (G.2.1, 16, .inl (o 6))), (a 7, .inl (G.2.2.1, 16, .inl (o 7))), (a 8, .inl (G.2.1, 4, .inl (o 8))), (a 9, .inl (G.2.1, 4, .inl (o 9)))]
abbrev wS (G : gh_G) (b : Nat → Nat) (z : gh_B) : va_W := [(b 5, .inr (1, [.ref (b 0), .ref (b 1), .ref (b 2), .int (z 3 0), .int (z 4 0)])), (b 0, .inl (G.2.1, 32, .inl (z 0))), (b 1, .inl (G.2.1, 32, .inl (z 1))), (b 2, .inl (G.2.1, 32, .inl (z 2)))]
abbrev wH (h sc nw tr : Nat) : va_W := [(h, .inr (2, [.ref sc, .ref nw, .ref tr]))]
abbrev wT (G : gh_G) (a : Nat → Nat) (mm : Nat) (t : gh_B) : va_W := [(a 0, .inr (3, [.int (t 0 0), .int (t 1 0), .int (t 2 0), .int (t 3 0), .ref (a 4), .ref (a 5), .ref (a 6), .ref (a 7), .ref (a 8), .ref (a 9), .int (t 10 0), .ref mm])), (a 4, .inl (G.2.1, 4, .inl (t 4))), (a 5, .inl (G.2.1, 4, .inl (t 5))), (a 6, .inl (G.2.1, 16, .inl (t 6))), (a 7, .inl (G.2.1, 16, .inl (t 7))), (a 8, .inl (G.2.1, 16, .inl (t 8))), (a 9, .inl (G.2.1, 16, .inl (t 9)))]
abbrev wM (G : gh_G) (x : Nat → Nat) (s1 s2 : Nat) (r : gh_B) : va_W := [(x 0, .inr (4, [.int (r 0 0), .int (r 1 0), .int (r 2 0), .ref (x 3), .int (r 4 0), .ref (x 5), .ref (x 6), .ref s1, .ref s2])), (x 3, .inl (G.2.1, 96, .inl (r 3))), (x 5, .inl (G.2.1, 16, .inl (r 5))), (x 6, .inl (G.2.1, 16, .inl (r 6)))]
end
section
/-! what the methods of the front answer, in plain numbers: in the order of their own branches -/
def gh_rg (x n : Int32) : Int32 := if x < 0 then 0 else if n ≤ x then 0 else 1
def gh_iw (x lo hi : Int32) : Int32 := if x < lo then 0 else if hi < x then 0 else 1
def gh_ds (t u : Int32) : Int32 := if u ≤ t then t - u else u - t
theorem gh_rg_1 {k n : Nat} {x : Int32} (hx : x = nI n) (hn : n < 2 ^ 31) (hk : k < n) : gh_rg (nI k) x = 1 := by
  rw [gh_rg, if_neg (nI_pos (Nat.lt_trans hk hn)), hx, if_neg (nI_ge hk hn)]
theorem gh_rg_k {x y : Int32} {n : Nat} (h : ¬ gh_rg x y = 0) (hy : y = nI n) (hn : n < 2 ^ 31) : ∃ k : Nat, k < n ∧ x = nI k := by
  rw [gh_rg] at h
  by_cases h1 : x < 0
  · rw [if_pos h1] at h; exact absurd rfl h
  · rw [if_neg h1] at h
    by_cases h2 : y ≤ x
    · rw [if_pos h2] at h; exact absurd rfl h
    · rw [hy] at h2
      rcases pk_ix x hn with q | q | q
      · exact absurd q h1
      · exact absurd q h2
      · exact q
theorem gh_iw_k {x : Int32} {n : Nat} {hi : Int32} (h : ¬ gh_iw x 0 hi = 0) (hh : hi + 1 = nI n) (hn : n < 2 ^ 31) (h0 : 0 < n) (hhi : hi = nI (n - 1)) : ∃ k : Nat, k < n ∧ x = nI k := by
  rw [gh_iw] at h
  by_cases h1 : x < 0
  · rw [if_pos h1] at h; exact absurd rfl h
  · rw [if_neg h1] at h
    by_cases h2 : hi < x
    · rw [if_pos h2] at h; exact absurd rfl h
    · obtain ⟨j, hj, e⟩ := nI_of h1
      refine ⟨j, ?_, e⟩
      rw [e, hhi] at h2
      have h3 : ¬ (n - 1 < j) := fun q => h2 (nI_lt q hj)
      omega
/-- the drops that lower the tone -/
def gh_lw (o : gh_B) (k : Nat) : Int32 := if 4 * o 2 k ≤ 0 then 0 else o 3 k / (4 * o 2 k)
/-- the tone of a glass -/
def gh_tn (o : gh_B) (k : Nat) : Int32 := if 0 < 120 - 8 * o 2 k - gh_lw o k then 120 - 8 * o 2 k - gh_lw o k else 0
def gh_fw (o : gh_B) (k : Nat) (t : Int32) : Int32 := if gh_iw (4 * o 2 k * (120 - 8 * o 2 k - t)) 0 (100 * o 2 k) = 0 then -1 else 4 * o 2 k * (120 - 8 * o 2 k - t)
def gh_cb (o : gh_B) (k : Nat) (t : Int32) : Int32 := if o 4 k = 0 then if gh_fw o k t = -1 then 0 else 1 else 0
def gh_cn (f : Nat → Int32) : Nat → Int32
  | 0 => 0
  | i + 1 => if f i = 0 then gh_cn f i else gh_cn f i + 1
def gh_cr (f : Nat → Int32) (r : Int32) : Nat → Int32
  | 0 => 0
  | i + 1 => if f i = r then gh_cr f r i + 1 else gh_cr f r i
def gh_sm (f : Nat → Int32) : Nat → Int32
  | 0 => 0
  | i + 1 => gh_sm f i + f i
/-- two glasses beat against each other -/
def gh_ba (o : gh_B) (g j : Nat) : Int32 := if o 5 g < 1 then 0 else if 1 ≤ o 5 j then gh_iw (gh_ds (gh_tn o g) (gh_tn o j)) 1 2 else 0
def gh_ha (o : gh_B) (r f : Int32) : Int32 := if gh_iw r 0 3 = 0 then 0 else if o 8 r.toNatClampNeg < f then 0 else 1
/-- the glass that plays, and how far it is off -/
def gh_pf (o : gh_B) (t f : Int32) : Nat → Int32 × Int32
  | 0 => (-1, 7)
  | i + 1 => if o 4 i = 0 then if o 7 i = 0 then if gh_ha o (o 1 i) f = 0 then gh_pf o t f i else if (gh_pf o t f i).2 ≤ gh_ds (gh_tn o i) t then gh_pf o t f i else (nI i, gh_ds (gh_tn o i) t) else gh_pf o t f i else gh_pf o t f i
theorem gh_iwb (x lo hi : Int32) : narrow .boolean (.int (gh_iw x lo hi)) = .int (gh_iw x lo hi) := by
  unfold gh_iw; split
  · rfl
  · split <;> rfl
theorem gh_iw_in {r : Int32} (h : ¬ gh_iw r 0 3 = 0) : vp_in r 4 := by
  obtain ⟨k, hk, e⟩ := gh_iw_k (n := 4) h (by decide) (by decide) (by decide) (by decide)
  rw [e]; exact vp_in_nI hk (by decide)
end
section
set_option maxHeartbeats 4000000 in
set_option maxRecDepth 100000 in
theorem c_X2_isWithin (l : Launch) (G : gh_G) (x : Int32) (lo : Int32) (hh : Int32)  : Met l yX2_isWithin wsX2_isWithin ({ frames := 0, cells := 0, slots := 0, locals := 0 } : Room) (gh_r G [.int x, .int lo, .int hh] ([])) (vp_Si (fun r9 => r9 = gh_iw x lo hh)) 0 0 (fun _ => False) := by
  refine Met.ofW (cc := cX2_isWithin) (maxL := 3) (ret := (some .boolean)) (by decide) rfl ?_
  intro p e s m args below meth c s₁ B hml hv
  obtain ⟨rfl, hP, hE⟩ := hv
  have hx := B.exec
  have hb := B.bytes
  have hr := B.returns
  have hts := atoms_spec (ws := wsX2_isWithin) B.pre
  have hown : s.vm.findClass RX2 = some m.cls := findClass_of_methodNamed B.named
  have hlocks := B.notSynchronized
  have hK := hE.1
  have hl := lv_entry ([.int x, .int lo, .int hh]) (n := 3) (Nat.le_of_ble_eq_true rfl)
  rw [lg_entry_eq]
  generalize (lg_sl ([.int x, .int lo, .int hh]) ++ List.replicate (3 - (lg_sl ([.int x, .int lo, .int hh])).length) Slot.unset).toArray = ls at hl ⊢
  have hl : lv_has ls 3 [(0, .int x), (1, .int lo), (2, .int hh)] := hl
  refine lv_iload_n hx hb dX2_isWithin_0 rfl (lv_at hl 0 rfl) ?_
  refine lv_iload_n hx hb dX2_isWithin_1 rfl (lv_at hl 1 rfl) ?_
  refine lv_icmp_lt (tgt := 14) hx hb dX2_isWithin_2 (by decide) (fun c_1 => ?_) (fun c_1 => ?_)
  · skip
    refine lv_iconst (v := 0) hx hb dX2_isWithin_14 (by decide) ?_
    exact W.zret (v := 0) hx hb hr (by decide) (fun t9 ht hW => ⟨0, rfl, by first | (simp only [gh_iw, c_1, ↓reduceIte, if_true, if_false]; done) | (simp only [gh_iw]; simp only [c_1, ↓reduceIte, if_true, if_false]; done), ht⟩) (fun q hq => absurd hq List.not_mem_nil) dX2_isWithin_15
  · skip
    refine lv_iload_n hx hb dX2_isWithin_5 rfl (lv_at hl 0 rfl) ?_
    refine lv_iload_n hx hb dX2_isWithin_6 rfl (lv_at hl 2 rfl) ?_
    refine lv_icmp_gt (tgt := 14) hx hb dX2_isWithin_7 (by decide) (fun c_2 => ?_) (fun c_2 => ?_)
    · skip
      refine lv_iconst (v := 0) hx hb dX2_isWithin_14 (by decide) ?_
      exact W.zret (v := 0) hx hb hr (by decide) (fun t9 ht hW => ⟨0, rfl, by first | (simp only [gh_iw, c_1, c_2, ↓reduceIte, if_true, if_false]; done) | (simp only [gh_iw]; simp only [c_1, c_2, ↓reduceIte, if_true, if_false]; done), ht⟩) (fun q hq => absurd hq List.not_mem_nil) dX2_isWithin_15
    · skip
      refine lv_iconst (v := 1) hx hb dX2_isWithin_10 (by decide) ?_
      refine lv_goto (tgt := 15) hx hb dX2_isWithin_11 (by decide) ?_
      exact W.zret (v := 1) hx hb hr (by decide) (fun t9 ht hW => ⟨1, rfl, by first | (simp only [gh_iw, c_1, c_2, ↓reduceIte, if_true, if_false]; done) | (simp only [gh_iw]; simp only [c_1, c_2, ↓reduceIte, if_true, if_false]; done), ht⟩) (fun q hq => absurd hq List.not_mem_nil) dX2_isWithin_15
set_option maxHeartbeats 4000000 in
set_option maxRecDepth 100000 in
theorem c_X2_distance (l : Launch) (G : gh_G) (x : Int32) (y : Int32)  : Met l yX2_distance wsX2_distance ({ frames := 0, cells := 0, slots := 0, locals := 0 } : Room) (gh_r G [.int x, .int y] ([])) (vp_Si (fun r9 => r9 = gh_ds x y)) 0 0 (fun _ => False) := by
  refine Met.ofW (cc := cX2_distance) (maxL := 2) (ret := (some .int)) (by decide) rfl ?_
  intro p e s m args below meth c s₁ B hml hv
  obtain ⟨rfl, hP, hE⟩ := hv
  have hx := B.exec
  have hb := B.bytes
  have hr := B.returns
  have hts := atoms_spec (ws := wsX2_distance) B.pre
  have hown : s.vm.findClass RX2 = some m.cls := findClass_of_methodNamed B.named
  have hlocks := B.notSynchronized
  have hK := hE.1
  have hl := lv_entry ([.int x, .int y]) (n := 2) (Nat.le_of_ble_eq_true rfl)
  rw [lg_entry_eq]
  generalize (lg_sl ([.int x, .int y]) ++ List.replicate (2 - (lg_sl ([.int x, .int y])).length) Slot.unset).toArray = ls at hl ⊢
  have hl : lv_has ls 2 [(0, .int x), (1, .int y)] := hl
  refine lv_iload_n hx hb dX2_distance_0 rfl (lv_at hl 0 rfl) ?_
  refine lv_iload_n hx hb dX2_distance_1 rfl (lv_at hl 1 rfl) ?_
  refine lv_icmp_ge (tgt := 11) hx hb dX2_distance_2 (by decide) (fun c_1 => ?_) (fun c_1 => ?_)
  · skip
    refine lv_iload_n hx hb dX2_distance_11 rfl (lv_at hl 0 rfl) ?_
    refine lv_iload_n hx hb dX2_distance_12 rfl (lv_at hl 1 rfl) ?_
    refine lv_isub hx hb dX2_distance_13 ?_
    exact W.iret (v := x - y) hx hb hr (fun t9 ht hW => ⟨x - y, rfl, by first | (simp only [gh_ds, c_1, ↓reduceIte, if_true, if_false]; done) | (simp only [gh_ds]; simp only [c_1, ↓reduceIte, if_true, if_false]; done), ht⟩) (fun q hq => absurd hq List.not_mem_nil) dX2_distance_14
  · skip
    refine lv_iload_n hx hb dX2_distance_5 rfl (lv_at hl 1 rfl) ?_
    refine lv_iload_n hx hb dX2_distance_6 rfl (lv_at hl 0 rfl) ?_
    refine lv_isub hx hb dX2_distance_7 ?_
    refine lv_goto (tgt := 14) hx hb dX2_distance_8 (by decide) ?_
    exact W.iret (v := y - x) hx hb hr (fun t9 ht hW => ⟨y - x, rfl, by first | (simp only [gh_ds, c_1, ↓reduceIte, if_true, if_false]; done) | (simp only [gh_ds]; simp only [c_1, ↓reduceIte, if_true, if_false]; done), ht⟩) (fun q hq => absurd hq List.not_mem_nil) dX2_distance_14
set_option maxHeartbeats 4000000 in
set_option maxRecDepth 100000 in
theorem c_X0_emptyTone (l : Launch) (G : gh_G) (x : Int32)  : Met l yX0_emptyTone wsX0_emptyTone ({ frames := 0, cells := 0, slots := 0, locals := 0 } : Room) (gh_r G [.int x] ([])) (vp_Si (fun r9 => r9 = 120 - 8 * x)) 0 0 (fun _ => False) := by
  refine Met.ofW (cc := cX0_emptyTone) (maxL := 1) (ret := (some .int)) (by decide) rfl ?_
  intro p e s m args below meth c s₁ B hml hv
  obtain ⟨rfl, hP, hE⟩ := hv
  have hx := B.exec
  have hb := B.bytes
  have hr := B.returns
  have hts := atoms_spec (ws := wsX0_emptyTone) B.pre
  have hown : s.vm.findClass RX0 = some m.cls := findClass_of_methodNamed B.named
  have hlocks := B.notSynchronized
  have hK := hE.1
  have hl := lv_entry ([.int x]) (n := 1) (Nat.le_of_ble_eq_true rfl)
  rw [lg_entry_eq]
  generalize (lg_sl ([.int x]) ++ List.replicate (1 - (lg_sl ([.int x])).length) Slot.unset).toArray = ls at hl ⊢
  have hl : lv_has ls 1 [(0, .int x)] := hl
  refine lv_bipush (v := 120) hx hb dX0_emptyTone_0 (by decide) ?_
  refine lv_bipush (v := 8) hx hb dX0_emptyTone_2 (by decide) ?_
  refine lv_iload_n hx hb dX0_emptyTone_4 rfl (lv_at hl 0 rfl) ?_
  refine lv_imul hx hb dX0_emptyTone_5 ?_
  refine lv_isub hx hb dX0_emptyTone_6 ?_
  exact W.iret (v := 120 - (8 * x)) hx hb hr (fun t9 ht hW => ⟨120 - (8 * x), rfl, by first | (simp only [↓reduceIte, if_true, if_false]; done) | (simp only [↓reduceIte, if_true, if_false]; rfl), ht⟩) (fun q hq => absurd hq List.not_mem_nil) dX0_emptyTone_7
set_option maxHeartbeats 4000000 in
set_option maxRecDepth 100000 in
theorem c_X0_dropsPerTone (l : Launch) (G : gh_G) (x : Int32)  : Met l yX0_dropsPerTone wsX0_dropsPerTone ({ frames := 0, cells := 0, slots := 0, locals := 0 } : Room) (gh_r G [.int x] ([])) (vp_Si (fun r9 => r9 = 4 * x)) 0 0 (fun _ => False) := by
  refine Met.ofW (cc := cX0_dropsPerTone) (maxL := 1) (ret := (some .int)) (by decide) rfl ?_
  intro p e s m args below meth c s₁ B hml hv
  obtain ⟨rfl, hP, hE⟩ := hv
  have hx := B.exec
  have hb := B.bytes
  have hr := B.returns
  have hts := atoms_spec (ws := wsX0_dropsPerTone) B.pre
  have hown : s.vm.findClass RX0 = some m.cls := findClass_of_methodNamed B.named
  have hlocks := B.notSynchronized
  have hK := hE.1
  have hl := lv_entry ([.int x]) (n := 1) (Nat.le_of_ble_eq_true rfl)
  rw [lg_entry_eq]
  generalize (lg_sl ([.int x]) ++ List.replicate (1 - (lg_sl ([.int x])).length) Slot.unset).toArray = ls at hl ⊢
  have hl : lv_has ls 1 [(0, .int x)] := hl
  refine lv_iconst (v := 4) hx hb dX0_dropsPerTone_0 (by decide) ?_
  refine lv_iload_n hx hb dX0_dropsPerTone_1 rfl (lv_at hl 0 rfl) ?_
  refine lv_imul hx hb dX0_dropsPerTone_2 ?_
  exact W.iret (v := 4 * x) hx hb hr (fun t9 ht hW => ⟨4 * x, rfl, rfl, ht⟩) (fun q hq => absurd hq List.not_mem_nil) dX0_dropsPerTone_3
set_option maxHeartbeats 4000000 in
set_option maxRecDepth 100000 in
theorem c_X1_hasNote (l : Launch) (G : gh_G) (b : Nat → Nat) (z : gh_B) (x : Int32)  : Met l yX1_hasNote wsX1_hasNote ({ frames := 0, cells := 0, slots := 0, locals := 0 } : Room) (gh_r G [.ref (b 5), .int x] (wS G b z)) (vp_Si (fun r9 => r9 = gh_rg x (z 3 0))) 0 0 (fun _ => False) := by
  refine Met.ofW (cc := cX1_hasNote) (maxL := 2) (ret := (some .boolean)) (by decide) rfl ?_
  intro p e s m args below meth c s₁ B hml hv
  obtain ⟨rfl, hP, hE⟩ := hv
  have hx := B.exec
  have hb := B.bytes
  have hr := B.returns
  have hts := atoms_spec (ws := wsX1_hasNote) B.pre
  have hown : s.vm.findClass RX1 = some m.cls := findClass_of_methodNamed B.named
  have hlocks := B.notSynchronized
  have hK := hE.1
  have hl := lv_entry ([.ref (b 5), .int x]) (n := 2) (Nat.le_of_ble_eq_true rfl)
  rw [lg_entry_eq]
  generalize (lg_sl ([.ref (b 5), .int x]) ++ List.replicate (2 - (lg_sl ([.ref (b 5), .int x])).length) Slot.unset).toArray = ls at hl ⊢
  have hl : lv_has ls 2 [(0, .ref (b 5)), (1, .int x)] := hl
  refine lv_iload_n hx hb dX1_hasNote_0 rfl (lv_at hl 1 rfl) ?_
  refine lv_if_lt (tgt := 16) hx hb dX1_hasNote_1 (by decide) (fun c_1 => ?_) (fun c_1 => ?_)
  · skip
    refine lv_iconst (v := 0) hx hb dX1_hasNote_16 (by decide) ?_
    exact W.zret (v := 0) hx hb hr (by decide) (fun t9 ht hW => ⟨0, rfl, by first | (simp only [gh_rg, c_1, ↓reduceIte, if_true, if_false]; done) | (simp only [gh_rg]; simp only [c_1, ↓reduceIte, if_true, if_false]; done), ht⟩) (fun q hq => absurd hq List.not_mem_nil) dX1_hasNote_17
  · skip
    refine lv_iload_n hx hb dX1_hasNote_4 rfl (lv_at hl 1 rfl) ?_
    refine lv_aload_n hx hb dX1_hasNote_5 rfl (lv_at hl 0 rfl) ?_
    refine va_get (D := G.1) (ci := 1) (v := .int (z 3 0)) (C := RX1) (T := TX1) (N := 5) hx hb hts (fun w9 h9 => List.mem_cons_of_mem _ (List.mem_append_right _ h9)) hown hK hP 0 rfl rfl 3 (by decide) (hts (.fieldLink RX1 21 "GlassHarp$Score" "notes" "I") (List.mem_of_getElem? (i := 1) rfl)) (fun _ h9 => h9) rfl dX1_hasNote_6 ?_
    refine lv_icmp_ge (tgt := 16) hx hb dX1_hasNote_9 (by decide) (fun c_2 => ?_) (fun c_2 => ?_)
    · skip
      refine lv_iconst (v := 0) hx hb dX1_hasNote_16 (by decide) ?_
      exact W.zret (v := 0) hx hb hr (by decide) (fun t9 ht hW => ⟨0, rfl, by first | (simp only [gh_rg, c_1, c_2, ↓reduceIte, if_true, if_false]; done) | (simp only [gh_rg]; simp only [c_1, c_2, ↓reduceIte, if_true, if_false]; done), ht⟩) (fun q hq => absurd hq List.not_mem_nil) dX1_hasNote_17
    · skip
      refine lv_iconst (v := 1) hx hb dX1_hasNote_12 (by decide) ?_
      refine lv_goto (tgt := 17) hx hb dX1_hasNote_13 (by decide) ?_
      exact W.zret (v := 1) hx hb hr (by decide) (fun t9 ht hW => ⟨1, rfl, by first | (simp only [gh_rg, c_1, c_2, ↓reduceIte, if_true, if_false]; done) | (simp only [gh_rg]; simp only [c_1, c_2, ↓reduceIte, if_true, if_false]; done), ht⟩) (fun q hq => absurd hq List.not_mem_nil) dX1_hasNote_17
set_option maxHeartbeats 4000000 in
set_option maxRecDepth 100000 in
theorem c_X0_hasGlass (l : Launch) (G : gh_G) (a : Nat → Nat) (sc : Nat) (o : gh_B) (x : Int32)  : Met l yX0_hasGlass wsX0_hasGlass ({ frames := 0, cells := 0, slots := 0, locals := 0 } : Room) (gh_r G [.ref (a 0), .int x] (wO G a sc o)) (vp_Si (fun r9 => r9 = gh_rg x (o 10 0))) 0 0 (fun _ => False) := by
  refine Met.ofW (cc := cX0_hasGlass) (maxL := 2) (ret := (some .boolean)) (by decide) rfl ?_
  intro p e s m args below meth c s₁ B hml hv
  obtain ⟨rfl, hP, hE⟩ := hv
  have hx := B.exec
  have hb := B.bytes
  have hr := B.returns
  have hts := atoms_spec (ws := wsX0_hasGlass) B.pre
  have hown : s.vm.findClass RX0 = some m.cls := findClass_of_methodNamed B.named
  have hlocks := B.notSynchronized
  have hK := hE.1
  have hl := lv_entry ([.ref (a 0), .int x]) (n := 2) (Nat.le_of_ble_eq_true rfl)
  rw [lg_entry_eq]
  generalize (lg_sl ([.ref (a 0), .int x]) ++ List.replicate (2 - (lg_sl ([.ref (a 0), .int x])).length) Slot.unset).toArray = ls at hl ⊢
  have hl : lv_has ls 2 [(0, .ref (a 0)), (1, .int x)] := hl
  refine lv_iload_n hx hb dX0_hasGlass_0 rfl (lv_at hl 1 rfl) ?_
  refine lv_if_lt (tgt := 16) hx hb dX0_hasGlass_1 (by decide) (fun c_1 => ?_) (fun c_1 => ?_)
  · skip
    refine lv_iconst (v := 0) hx hb dX0_hasGlass_16 (by decide) ?_
    exact W.zret (v := 0) hx hb hr (by decide) (fun t9 ht hW => ⟨0, rfl, by first | (simp only [gh_rg, c_1, ↓reduceIte, if_true, if_false]; done) | (simp only [gh_rg]; simp only [c_1, ↓reduceIte, if_true, if_false]; done), ht⟩) (fun q hq => absurd hq List.not_mem_nil) dX0_hasGlass_17
  · skip
    refine lv_iload_n hx hb dX0_hasGlass_4 rfl (lv_at hl 1 rfl) ?_
    refine lv_aload_n hx hb dX0_hasGlass_5 rfl (lv_at hl 0 rfl) ?_
    refine va_get (D := G.1) (ci := 0) (v := .int (o 10 0)) (C := RX0) (T := TX0) (N := 15) hx hb hts (fun w9 h9 => List.mem_cons_of_mem _ (List.mem_append_right _ h9)) hown hK hP 0 rfl rfl 10 (by decide) (hts (.fieldLink RX0 40 "GlassHarp$Orchestra" "glasses" "I") (List.mem_of_getElem? (i := 1) rfl)) (fun _ h9 => h9) rfl dX0_hasGlass_6 ?_
    refine lv_icmp_ge (tgt := 16) hx hb dX0_hasGlass_9 (by decide) (fun c_2 => ?_) (fun c_2 => ?_)
    · skip
      refine lv_iconst (v := 0) hx hb dX0_hasGlass_16 (by decide) ?_
      exact W.zret (v := 0) hx hb hr (by decide) (fun t9 ht hW => ⟨0, rfl, by first | (simp only [gh_rg, c_1, c_2, ↓reduceIte, if_true, if_false]; done) | (simp only [gh_rg]; simp only [c_1, c_2, ↓reduceIte, if_true, if_false]; done), ht⟩) (fun q hq => absurd hq List.not_mem_nil) dX0_hasGlass_17
    · skip
      refine lv_iconst (v := 1) hx hb dX0_hasGlass_12 (by decide) ?_
      refine lv_goto (tgt := 17) hx hb dX0_hasGlass_13 (by decide) ?_
      exact W.zret (v := 1) hx hb hr (by decide) (fun t9 ht hW => ⟨1, rfl, by first | (simp only [gh_rg, c_1, c_2, ↓reduceIte, if_true, if_false]; done) | (simp only [gh_rg]; simp only [c_1, c_2, ↓reduceIte, if_true, if_false]; done), ht⟩) (fun q hq => absurd hq List.not_mem_nil) dX0_hasGlass_17
set_option maxHeartbeats 4000000 in
set_option maxRecDepth 100000 in
theorem c_X0_mostDrops (l : Launch) (G : gh_G) (a : Nat → Nat) (sc : Nat) (o : gh_B) (n : Nat) (k : Nat) (hn : o 10 0 = nI n) (hn16 : n ≤ 16) (hk : k < n) : Met l yX0_mostDrops wsX0_mostDrops ({ frames := 1, cells := 0, slots := 0, locals := 21 } : Room) (gh_r G [.ref (a 0), .int (nI k)] (wO G a sc o)) (vp_Si (fun r9 => r9 = 100 * o 2 k)) 0 0 (fun _ => False) := by
  refine Met.ofW (cc := cX0_mostDrops) (maxL := 2) (ret := (some .int)) (by decide) rfl ?_
  intro p e s m args below meth c s₁ B hml hv
  obtain ⟨rfl, hP, hE⟩ := hv
  have hx := B.exec
  have hb := B.bytes
  have hr := B.returns
  have hts := atoms_spec (ws := wsX0_mostDrops) B.pre
  have hown : s.vm.findClass RX0 = some m.cls := findClass_of_methodNamed B.named
  have hlocks := B.notSynchronized
  have hK := hE.1
  have hl := lv_entry ([.ref (a 0), .int (nI k)]) (n := 2) (Nat.le_of_ble_eq_true rfl)
  rw [lg_entry_eq]
  generalize (lg_sl ([.ref (a 0), .int (nI k)]) ++ List.replicate (2 - (lg_sl ([.ref (a 0), .int (nI k)])).length) Slot.unset).toArray = ls at hl ⊢
  have hl : lv_has ls 2 [(0, .ref (a 0)), (1, .int (nI k))] := hl
  refine lv_aload_n hx hb dX0_mostDrops_0 rfl (lv_at hl 0 rfl) ?_
  refine lv_iload_n hx hb dX0_mostDrops_1 rfl (lv_at hl 1 rfl) ?_
  refine gh_ci (va_runV (As := [.int (nI k)]) (rest := []) ⟨hx, hb, hml, hown, hts⟩ (c_X0_hasGlass l G a sc o (nI k)) (cwV 1 hts gX0_mostDrops_X0_hasGlass rfl rfl rfl ⟨rfl, hdS_X0_hasGlass⟩ ⟨Nat.le_of_ble_eq_true rfl, Nat.le_of_ble_eq_true rfl⟩) (gh_rV hE hP (ci := 0) (q0 := 0) rfl rfl) rfl rfl hl.1 rfl (lv_room (Nat.le_of_ble_eq_true rfl)) dX0_mostDrops_2 ⟨Nat.le_of_ble_eq_true rfl, Nat.le_of_ble_eq_true rfl⟩) ?_
  refine gh_vv (y := 1) (gh_rg_1 hn (Nat.lt_of_le_of_lt hn16 (by decide)) hk) ?_
  refine lv_if_eq (tgt := 20) hx hb dX0_mostDrops_5 (by decide) (fun c_1 => absurd c_1 (by decide)) (fun c_1 => ?_)
  refine lv_bipush (v := 100) hx hb dX0_mostDrops_8 (by decide) ?_
  refine lv_aload_n hx hb dX0_mostDrops_10 rfl (lv_at hl 0 rfl) ?_
  refine va_get (D := G.1) (ci := 0) (v := .ref (a 2)) (C := RX0) (T := TX0) (N := 15) hx hb hts (fun w9 h9 => List.mem_cons_of_mem _ (List.mem_append_right _ h9)) hown hK hP 0 rfl rfl 2 (by decide) (hts (.fieldLink RX0 15 "GlassHarp$Orchestra" "sizes" "[I") (List.mem_of_getElem? (i := 1) rfl)) (fun _ h9 => h9) rfl dX0_mostDrops_11 ?_
  refine lv_iload_n hx hb dX0_mostDrops_14 rfl (lv_at hl 1 rfl) ?_
  refine gh_ia (f := o 2) hx hb hK hP 2 0 rfl rfl k (rfl) (by omega) (by decide) dX0_mostDrops_15 ?_
  refine lv_imul hx hb dX0_mostDrops_16 ?_
  refine lv_goto (tgt := 21) hx hb dX0_mostDrops_17 (by decide) ?_
  exact W.iret (v := 100 * (o 2 k)) hx hb hr (fun t9 ht hW => ⟨100 * (o 2 k), rfl, by first | (simp only [c_1, ↓reduceIte, if_true, if_false]; done) | (simp only [c_1, ↓reduceIte, if_true, if_false]; rfl), ht⟩) (fun q hq => absurd hq List.not_mem_nil) dX0_mostDrops_21
set_option maxHeartbeats 4000000 in
set_option maxRecDepth 100000 in
theorem c_X0_toneOf (l : Launch) (G : gh_G) (a : Nat → Nat) (sc : Nat) (o : gh_B) (n : Nat) (k : Nat) (hn : o 10 0 = nI n) (hn16 : n ≤ 16) (hk : k < n) : Met l yX0_toneOf wsX0_toneOf ({ frames := 1, cells := 0, slots := 0, locals := 21 } : Room) (gh_r G [.ref (a 0), .int (nI k)] (wO G a sc o)) (vp_Si (fun r9 => r9 = gh_tn o k)) 0 0 (fun _ => False) := by
  refine Met.ofW (cc := cX0_toneOf) (maxL := 4) (ret := (some .int)) (by decide) rfl ?_
  intro p e s m args below meth c s₁ B hml hv
  obtain ⟨rfl, hP, hE⟩ := hv
  have hx := B.exec
  have hb := B.bytes
  have hr := B.returns
  have hts := atoms_spec (ws := wsX0_toneOf) B.pre
  have hown : s.vm.findClass RX0 = some m.cls := findClass_of_methodNamed B.named
  have hlocks := B.notSynchronized
  have hK := hE.1
  have hl := lv_entry ([.ref (a 0), .int (nI k)]) (n := 4) (Nat.le_of_ble_eq_true rfl)
  rw [lg_entry_eq]
  generalize (lg_sl ([.ref (a 0), .int (nI k)]) ++ List.replicate (4 - (lg_sl ([.ref (a 0), .int (nI k)])).length) Slot.unset).toArray = ls at hl ⊢
  have hl : lv_has ls 4 [(0, .ref (a 0)), (1, .int (nI k))] := hl
  refine lv_aload_n hx hb dX0_toneOf_0 rfl (lv_at hl 0 rfl) ?_
  refine lv_iload_n hx hb dX0_toneOf_1 rfl (lv_at hl 1 rfl) ?_
  refine gh_ci (va_runV (As := [.int (nI k)]) (rest := []) ⟨hx, hb, hml, hown, hts⟩ (c_X0_hasGlass l G a sc o (nI k)) (cwV 1 hts gX0_toneOf_X0_hasGlass rfl rfl rfl ⟨rfl, hdS_X0_hasGlass⟩ ⟨Nat.le_of_ble_eq_true rfl, Nat.le_of_ble_eq_true rfl⟩) (gh_rV hE hP (ci := 0) (q0 := 0) rfl rfl) rfl rfl hl.1 rfl (lv_room (Nat.le_of_ble_eq_true rfl)) dX0_toneOf_2 ⟨Nat.le_of_ble_eq_true rfl, Nat.le_of_ble_eq_true rfl⟩) ?_
  refine gh_vv (y := 1) (gh_rg_1 hn (Nat.lt_of_le_of_lt hn16 (by decide)) hk) ?_
  refine lv_if_ne (tgt := 10) hx hb dX0_toneOf_5 (by decide) (fun c_1 => ?_) (fun c_1 => absurd c_1 (by decide))
  refine lv_aload_n hx hb dX0_toneOf_10 rfl (lv_at hl 0 rfl) ?_
  refine va_get (D := G.1) (ci := 0) (v := .ref (a 2)) (C := RX0) (T := TX0) (N := 15) hx hb hts (fun w9 h9 => List.mem_cons_of_mem _ (List.mem_append_right _ h9)) hown hK hP 0 rfl rfl 2 (by decide) (hts (.fieldLink RX0 15 "GlassHarp$Orchestra" "sizes" "[I") (List.mem_of_getElem? (i := 1) rfl)) (fun _ h9 => h9) rfl dX0_toneOf_11 ?_
  refine lv_iload_n hx hb dX0_toneOf_14 rfl (lv_at hl 1 rfl) ?_
  refine gh_ia (f := o 2) hx hb hK hP 2 0 rfl rfl k (rfl) (by omega) (by decide) dX0_toneOf_15 ?_
  refine gh_ci (va_runS (As := [.int (o 2 k)]) (rest := []) ⟨hx, hb, hml, hown, hts⟩ (c_X0_dropsPerTone l G (o 2 k)) (va_cwS 1 hts gX0_toneOf_X0_dropsPerTone rfl rfl rfl hdS_X0_dropsPerTone ⟨Nat.le_of_ble_eq_true rfl, Nat.le_of_ble_eq_true rfl⟩) (gh_rS hE (fun k q h => by simp at h)) rfl rfl hl.1 rfl (lv_room (Nat.le_of_ble_eq_true rfl)) dX0_toneOf_16 ⟨Nat.le_of_ble_eq_true rfl, Nat.le_of_ble_eq_true rfl⟩) ?_
  refine lv_istore_n (lv' := [(2, .int (4 * (o 2 k))), (0, .ref (a 0)), (1, .int (nI k))]) hx hb dX0_toneOf_19 rfl hl (by decide) rfl (fun ls hl => ?_)
  refine lv_iload_n hx hb dX0_toneOf_20 rfl (lv_at hl 0 rfl) ?_
  refine lv_if_le (tgt := 35) hx hb dX0_toneOf_21 (by decide) (fun c_2 => ?_) (fun c_2 => ?_)
  · skip
    refine lv_iconst (v := 0) hx hb dX0_toneOf_35 (by decide) ?_
    refine lv_istore_n (lv' := [(3, .int 0), (2, .int (4 * (o 2 k))), (0, .ref (a 0)), (1, .int (nI k))]) hx hb dX0_toneOf_36 rfl hl (by decide) rfl (fun ls hl => ?_)
    refine lv_iconst (v := 0) hx hb dX0_toneOf_37 (by decide) ?_
    refine lv_aload_n hx hb dX0_toneOf_38 rfl (lv_at hl 2 rfl) ?_
    refine va_get (D := G.1) (ci := 0) (v := .ref (a 2)) (C := RX0) (T := TX0) (N := 15) hx hb hts (fun w9 h9 => List.mem_cons_of_mem _ (List.mem_append_right _ h9)) hown hK hP 0 rfl rfl 2 (by decide) (hts (.fieldLink RX0 15 "GlassHarp$Orchestra" "sizes" "[I") (List.mem_of_getElem? (i := 1) rfl)) (fun _ h9 => h9) rfl dX0_toneOf_39 ?_
    refine lv_iload_n hx hb dX0_toneOf_42 rfl (lv_at hl 3 rfl) ?_
    refine gh_ia (f := o 2) hx hb hK hP 2 0 rfl rfl k (rfl) (by omega) (by decide) dX0_toneOf_43 ?_
    refine gh_ci (va_runS (As := [.int (o 2 k)]) (rest := [.int 0]) ⟨hx, hb, hml, hown, hts⟩ (c_X0_emptyTone l G (o 2 k)) (va_cwS 1 hts gX0_toneOf_X0_emptyTone rfl rfl rfl hdS_X0_emptyTone ⟨Nat.le_of_ble_eq_true rfl, Nat.le_of_ble_eq_true rfl⟩) (gh_rS hE (fun k q h => by simp at h)) rfl rfl hl.1 rfl (lv_room (Nat.le_of_ble_eq_true rfl)) dX0_toneOf_44 ⟨Nat.le_of_ble_eq_true rfl, Nat.le_of_ble_eq_true rfl⟩) ?_
    refine lv_iload_n hx hb dX0_toneOf_47 rfl (lv_at hl 0 rfl) ?_
    refine lv_isub hx hb dX0_toneOf_48 ?_
    refine va_mmax hx hb (hml.trans hl.1.symm) hown (hts (.methodLink RX0 75 Lib.Math.max.name) (List.mem_of_getElem? (i := 3) rfl)) (hts (.static Lib.Math.max.name) (List.mem_of_getElem? (i := 4) rfl)) (hts (.initialized "java/lang/Math") (List.mem_of_getElem? (i := 5) rfl)) (hts (.code Lib.Math.max.name Lib.Math.max.code 2 (some .int)) (List.mem_of_getElem? (i := 6) rfl)) (Nat.le_of_ble_eq_true rfl) (Nat.le_of_ble_eq_true rfl) (Nat.le_of_ble_eq_true rfl) (Nat.le_of_ble_eq_true rfl) dX0_toneOf_49 ?_
    exact W.iret (v := if 0 < (120 - 8 * (o 2 k)) - 0 then (120 - 8 * (o 2 k)) - 0 else 0) hx hb hr (fun t9 ht hW => ⟨if 0 < (120 - 8 * (o 2 k)) - 0 then (120 - 8 * (o 2 k)) - 0 else 0, rfl, by first | (simp only [gh_tn, gh_lw, c_1, c_2, ↓reduceIte, if_true, if_false]; done) | (simp only [gh_tn, gh_lw]; simp only [c_1, c_2, ↓reduceIte, if_true, if_false]; done), ht⟩) (fun q hq => absurd hq List.not_mem_nil) dX0_toneOf_52
  · skip
    refine lv_aload_n hx hb dX0_toneOf_24 rfl (lv_at hl 1 rfl) ?_
    refine va_get (D := G.1) (ci := 0) (v := .ref (a 3)) (C := RX0) (T := TX0) (N := 15) hx hb hts (fun w9 h9 => List.mem_cons_of_mem _ (List.mem_append_right _ h9)) hown hK hP 0 rfl rfl 3 (by decide) (hts (.fieldLink RX0 18 "GlassHarp$Orchestra" "drops" "[I") (List.mem_of_getElem? (i := 2) rfl)) (fun _ h9 => h9) rfl dX0_toneOf_25 ?_
    refine lv_iload_n hx hb dX0_toneOf_28 rfl (lv_at hl 2 rfl) ?_
    refine gh_ia (f := o 3) hx hb hK hP 3 0 rfl rfl k (rfl) (by omega) (by decide) dX0_toneOf_29 ?_
    refine lv_iload_n hx hb dX0_toneOf_30 rfl (lv_at hl 0 rfl) ?_
    refine lv_idiv hx hb dX0_toneOf_31 (fun h9 => c_2 (by rw [h9]; decide)) ?_
    refine lv_goto (tgt := 36) hx hb dX0_toneOf_32 (by decide) ?_
    refine lv_istore_n (lv' := [(3, .int ((o 3 k) / (4 * (o 2 k)))), (2, .int (4 * (o 2 k))), (0, .ref (a 0)), (1, .int (nI k))]) hx hb dX0_toneOf_36 rfl hl (by decide) rfl (fun ls hl => ?_)
    refine lv_iconst (v := 0) hx hb dX0_toneOf_37 (by decide) ?_
    refine lv_aload_n hx hb dX0_toneOf_38 rfl (lv_at hl 2 rfl) ?_
    refine va_get (D := G.1) (ci := 0) (v := .ref (a 2)) (C := RX0) (T := TX0) (N := 15) hx hb hts (fun w9 h9 => List.mem_cons_of_mem _ (List.mem_append_right _ h9)) hown hK hP 0 rfl rfl 2 (by decide) (hts (.fieldLink RX0 15 "GlassHarp$Orchestra" "sizes" "[I") (List.mem_of_getElem? (i := 1) rfl)) (fun _ h9 => h9) rfl dX0_toneOf_39 ?_
    refine lv_iload_n hx hb dX0_toneOf_42 rfl (lv_at hl 3 rfl) ?_
    refine gh_ia (f := o 2) hx hb hK hP 2 0 rfl rfl k (rfl) (by omega) (by decide) dX0_toneOf_43 ?_
    refine gh_ci (va_runS (As := [.int (o 2 k)]) (rest := [.int 0]) ⟨hx, hb, hml, hown, hts⟩ (c_X0_emptyTone l G (o 2 k)) (va_cwS 1 hts gX0_toneOf_X0_emptyTone rfl rfl rfl hdS_X0_emptyTone ⟨Nat.le_of_ble_eq_true rfl, Nat.le_of_ble_eq_true rfl⟩) (gh_rS hE (fun k q h => by simp at h)) rfl rfl hl.1 rfl (lv_room (Nat.le_of_ble_eq_true rfl)) dX0_toneOf_44 ⟨Nat.le_of_ble_eq_true rfl, Nat.le_of_ble_eq_true rfl⟩) ?_
    refine lv_iload_n hx hb dX0_toneOf_47 rfl (lv_at hl 0 rfl) ?_
    refine lv_isub hx hb dX0_toneOf_48 ?_
    refine va_mmax hx hb (hml.trans hl.1.symm) hown (hts (.methodLink RX0 75 Lib.Math.max.name) (List.mem_of_getElem? (i := 3) rfl)) (hts (.static Lib.Math.max.name) (List.mem_of_getElem? (i := 4) rfl)) (hts (.initialized "java/lang/Math") (List.mem_of_getElem? (i := 5) rfl)) (hts (.code Lib.Math.max.name Lib.Math.max.code 2 (some .int)) (List.mem_of_getElem? (i := 6) rfl)) (Nat.le_of_ble_eq_true rfl) (Nat.le_of_ble_eq_true rfl) (Nat.le_of_ble_eq_true rfl) (Nat.le_of_ble_eq_true rfl) dX0_toneOf_49 ?_
    exact W.iret (v := if 0 < (120 - 8 * (o 2 k)) - ((o 3 k) / (4 * (o 2 k))) then (120 - 8 * (o 2 k)) - ((o 3 k) / (4 * (o 2 k))) else 0) hx hb hr (fun t9 ht hW => ⟨if 0 < (120 - 8 * (o 2 k)) - ((o 3 k) / (4 * (o 2 k))) then (120 - 8 * (o 2 k)) - ((o 3 k) / (4 * (o 2 k))) else 0, rfl, by first | (simp only [gh_tn, gh_lw, c_1, c_2, ↓reduceIte, if_true, if_false]; done) | (simp only [gh_tn, gh_lw]; simp only [c_1, c_2, ↓reduceIte, if_true, if_false]; done), ht⟩) (fun q hq => absurd hq List.not_mem_nil) dX0_toneOf_52
set_option maxHeartbeats 4000000 in
set_option maxRecDepth 100000 in
theorem c_X0_fewestDropsFor (l : Launch) (G : gh_G) (a : Nat → Nat) (sc : Nat) (o : gh_B) (n : Nat) (k : Nat) (t : Int32) (hn : o 10 0 = nI n) (hn16 : n ≤ 16) (hk : k < n) : Met l yX0_fewestDropsFor wsX0_fewestDropsFor ({ frames := 2, cells := 0, slots := 0, locals := 42 } : Room) (gh_r G [.ref (a 0), .int (nI k), .int t] (wO G a sc o)) (vp_Si (fun r9 => r9 = gh_fw o k t)) 0 0 (fun _ => False) := by
  refine Met.ofW (cc := cX0_fewestDropsFor) (maxL := 5) (ret := (some .int)) (by decide) rfl ?_
  intro p e s m args below meth c s₁ B hml hv
  obtain ⟨rfl, hP, hE⟩ := hv
  have hx := B.exec
  have hb := B.bytes
  have hr := B.returns
  have hts := atoms_spec (ws := wsX0_fewestDropsFor) B.pre
  have hown : s.vm.findClass RX0 = some m.cls := findClass_of_methodNamed B.named
  have hlocks := B.notSynchronized
  have hK := hE.1
  have hl := lv_entry ([.ref (a 0), .int (nI k), .int t]) (n := 5) (Nat.le_of_ble_eq_true rfl)
  rw [lg_entry_eq]
  generalize (lg_sl ([.ref (a 0), .int (nI k), .int t]) ++ List.replicate (5 - (lg_sl ([.ref (a 0), .int (nI k), .int t])).length) Slot.unset).toArray = ls at hl ⊢
  have hl : lv_has ls 5 [(0, .ref (a 0)), (1, .int (nI k)), (2, .int t)] := hl
  refine lv_aload_n hx hb dX0_fewestDropsFor_0 rfl (lv_at hl 0 rfl) ?_
  refine lv_iload_n hx hb dX0_fewestDropsFor_1 rfl (lv_at hl 1 rfl) ?_
  refine gh_ci (va_runV (As := [.int (nI k)]) (rest := []) ⟨hx, hb, hml, hown, hts⟩ (c_X0_hasGlass l G a sc o (nI k)) (cwV 1 hts gX0_fewestDropsFor_X0_hasGlass rfl rfl rfl ⟨rfl, hdS_X0_hasGlass⟩ ⟨Nat.le_of_ble_eq_true rfl, Nat.le_of_ble_eq_true rfl⟩) (gh_rV hE hP (ci := 0) (q0 := 0) rfl rfl) rfl rfl hl.1 rfl (lv_room (Nat.le_of_ble_eq_true rfl)) dX0_fewestDropsFor_2 ⟨Nat.le_of_ble_eq_true rfl, Nat.le_of_ble_eq_true rfl⟩) ?_
  refine gh_vv (y := 1) (gh_rg_1 hn (Nat.lt_of_le_of_lt hn16 (by decide)) hk) ?_
  refine lv_if_ne (tgt := 10) hx hb dX0_fewestDropsFor_5 (by decide) (fun c_1 => ?_) (fun c_1 => absurd c_1 (by decide))
  refine lv_aload_n hx hb dX0_fewestDropsFor_10 rfl (lv_at hl 0 rfl) ?_
  refine va_get (D := G.1) (ci := 0) (v := .ref (a 2)) (C := RX0) (T := TX0) (N := 15) hx hb hts (fun w9 h9 => List.mem_cons_of_mem _ (List.mem_append_right _ h9)) hown hK hP 0 rfl rfl 2 (by decide) (hts (.fieldLink RX0 15 "GlassHarp$Orchestra" "sizes" "[I") (List.mem_of_getElem? (i := 1) rfl)) (fun _ h9 => h9) rfl dX0_fewestDropsFor_11 ?_
  refine lv_iload_n hx hb dX0_fewestDropsFor_14 rfl (lv_at hl 1 rfl) ?_
  refine gh_ia (f := o 2) hx hb hK hP 2 0 rfl rfl k (rfl) (by omega) (by decide) dX0_fewestDropsFor_15 ?_
  refine lv_istore_n (lv' := [(3, .int (o 2 k)), (0, .ref (a 0)), (1, .int (nI k)), (2, .int t)]) hx hb dX0_fewestDropsFor_16 rfl hl (by decide) rfl (fun ls hl => ?_)
  refine lv_iload_n hx hb dX0_fewestDropsFor_17 rfl (lv_at hl 0 rfl) ?_
  refine gh_ci (va_runS (As := [.int (o 2 k)]) (rest := []) ⟨hx, hb, hml, hown, hts⟩ (c_X0_dropsPerTone l G (o 2 k)) (va_cwS 1 hts gX0_fewestDropsFor_X0_dropsPerTone rfl rfl rfl hdS_X0_dropsPerTone ⟨Nat.le_of_ble_eq_true rfl, Nat.le_of_ble_eq_true rfl⟩) (gh_rS hE (fun k q h => by simp at h)) rfl rfl hl.1 rfl (lv_room (Nat.le_of_ble_eq_true rfl)) dX0_fewestDropsFor_18 ⟨Nat.le_of_ble_eq_true rfl, Nat.le_of_ble_eq_true rfl⟩) ?_
  refine lv_iload_n hx hb dX0_fewestDropsFor_21 rfl (lv_at hl 0 rfl) ?_
  refine gh_ci (va_runS (As := [.int (o 2 k)]) (rest := [.int (4 * (o 2 k))]) ⟨hx, hb, hml, hown, hts⟩ (c_X0_emptyTone l G (o 2 k)) (va_cwS 1 hts gX0_fewestDropsFor_X0_emptyTone rfl rfl rfl hdS_X0_emptyTone ⟨Nat.le_of_ble_eq_true rfl, Nat.le_of_ble_eq_true rfl⟩) (gh_rS hE (fun k q h => by simp at h)) rfl rfl hl.1 rfl (lv_room (Nat.le_of_ble_eq_true rfl)) dX0_fewestDropsFor_22 ⟨Nat.le_of_ble_eq_true rfl, Nat.le_of_ble_eq_true rfl⟩) ?_
  refine lv_iload_n hx hb dX0_fewestDropsFor_25 rfl (lv_at hl 3 rfl) ?_
  refine lv_isub hx hb dX0_fewestDropsFor_26 ?_
  refine lv_imul hx hb dX0_fewestDropsFor_27 ?_
  refine lv_istore (lv' := [(4, .int ((4 * (o 2 k)) * ((120 - 8 * (o 2 k)) - t))), (3, .int (o 2 k)), (0, .ref (a 0)), (1, .int (nI k)), (2, .int t)]) hx hb dX0_fewestDropsFor_28 hl (by decide) rfl (fun ls hl => ?_)
  refine lv_iload hx hb dX0_fewestDropsFor_30 (lv_at hl 0 rfl) ?_
  refine lv_iconst (v := 0) hx hb dX0_fewestDropsFor_32 (by decide) ?_
  refine lv_aload_n hx hb dX0_fewestDropsFor_33 rfl (lv_at hl 2 rfl) ?_
  refine lv_iload_n hx hb dX0_fewestDropsFor_34 rfl (lv_at hl 3 rfl) ?_
  refine gh_ci (va_runV (As := [.int (nI k)]) (rest := [.int 0, .int ((4 * (o 2 k)) * ((120 - 8 * (o 2 k)) - t))]) ⟨hx, hb, hml, hown, hts⟩ (c_X0_mostDrops l G a sc o n k (hn) (hn16) (hk)) (cwV 1 hts gX0_fewestDropsFor_X0_mostDrops rfl rfl rfl ⟨rfl, hdS_X0_mostDrops⟩ ⟨Nat.le_of_ble_eq_true rfl, Nat.le_of_ble_eq_true rfl⟩) (gh_rV hE hP (ci := 0) (q0 := 0) rfl rfl) rfl rfl hl.1 rfl (lv_room (Nat.le_of_ble_eq_true rfl)) dX0_fewestDropsFor_35 ⟨Nat.le_of_ble_eq_true rfl, Nat.le_of_ble_eq_true rfl⟩) ?_
  refine gh_ci (va_runSN (As := [.int ((4 * (o 2 k)) * ((120 - 8 * (o 2 k)) - t)), .int 0, .int (100 * o 2 k)]) (rest := []) ⟨hx, hb, hml, hown, hts⟩ (c_X2_isWithin l G ((4 * (o 2 k)) * ((120 - 8 * (o 2 k)) - t)) 0 (100 * o 2 k)) ⟨va_cnB 3 hts gX0_fewestDropsFor_X2_isWithin_n60 rfl rfl rfl (hE.2.1 (RX0, 60, yX2_isWithin, RX2) (List.mem_of_getElem? (i := 6) rfl)) (hts (.initialized RX2) (List.mem_of_getElem? (i := 19) rfl)) hdS_X2_isWithin ⟨Nat.le_of_ble_eq_true rfl, Nat.le_of_ble_eq_true rfl⟩, (hts (.static yX2_isWithin) (List.mem_of_getElem? (i := 18) rfl)), trivial⟩ (gh_rS hE (fun k q h => by simp at h)) rfl rfl hl.1 rfl (lv_room (Nat.le_of_ble_eq_true rfl)) dX0_fewestDropsFor_38 ⟨Nat.le_of_ble_eq_true rfl, Nat.le_of_ble_eq_true rfl⟩) ?_
  refine lv_if_eq (tgt := 49) hx hb dX0_fewestDropsFor_41 (by decide) (fun c_2 => ?_) (fun c_2 => ?_)
  · skip
    refine lv_iconst (v := (-1)) hx hb dX0_fewestDropsFor_49 (by decide) ?_
    exact W.iret (v := (-1)) hx hb hr (fun t9 ht hW => ⟨(-1), rfl, by first | (simp only [gh_fw, c_1, c_2, ↓reduceIte, if_true, if_false]; done) | (simp only [gh_fw]; simp only [c_1, c_2, ↓reduceIte, if_true, if_false]; done), ht⟩) (fun q hq => absurd hq List.not_mem_nil) dX0_fewestDropsFor_50
  · skip
    refine lv_iload hx hb dX0_fewestDropsFor_44 (lv_at hl 0 rfl) ?_
    refine lv_goto (tgt := 50) hx hb dX0_fewestDropsFor_46 (by decide) ?_
    exact W.iret (v := (4 * (o 2 k)) * ((120 - 8 * (o 2 k)) - t)) hx hb hr (fun t9 ht hW => ⟨(4 * (o 2 k)) * ((120 - 8 * (o 2 k)) - t), rfl, by first | (simp only [gh_fw, c_1, c_2, ↓reduceIte, if_true, if_false]; done) | (simp only [gh_fw]; simp only [c_1, c_2, ↓reduceIte, if_true, if_false]; done), ht⟩) (fun q hq => absurd hq List.not_mem_nil) dX0_fewestDropsFor_50
set_option maxHeartbeats 4000000 in
set_option maxRecDepth 100000 in
theorem c_X0_canBeTuned (l : Launch) (G : gh_G) (a : Nat → Nat) (sc : Nat) (o : gh_B) (n : Nat) (k : Nat) (t : Int32) (hn : o 10 0 = nI n) (hn16 : n ≤ 16) (hk : k < n) : Met l yX0_canBeTuned wsX0_canBeTuned ({ frames := 3, cells := 0, slots := 0, locals := 66 } : Room) (gh_r G [.ref (a 0), .int (nI k), .int t] (wO G a sc o)) (vp_Si (fun r9 => r9 = gh_cb o k t)) 0 0 (fun _ => False) := by
  refine Met.ofW (cc := cX0_canBeTuned) (maxL := 3) (ret := (some .boolean)) (by decide) rfl ?_
  intro p e s m args below meth c s₁ B hml hv
  obtain ⟨rfl, hP, hE⟩ := hv
  have hx := B.exec
  have hb := B.bytes
  have hr := B.returns
  have hts := atoms_spec (ws := wsX0_canBeTuned) B.pre
  have hown : s.vm.findClass RX0 = some m.cls := findClass_of_methodNamed B.named
  have hlocks := B.notSynchronized
  have hK := hE.1
  have hl := lv_entry ([.ref (a 0), .int (nI k), .int t]) (n := 3) (Nat.le_of_ble_eq_true rfl)
  rw [lg_entry_eq]
  generalize (lg_sl ([.ref (a 0), .int (nI k), .int t]) ++ List.replicate (3 - (lg_sl ([.ref (a 0), .int (nI k), .int t])).length) Slot.unset).toArray = ls at hl ⊢
  have hl : lv_has ls 3 [(0, .ref (a 0)), (1, .int (nI k)), (2, .int t)] := hl
  refine lv_aload_n hx hb dX0_canBeTuned_0 rfl (lv_at hl 0 rfl) ?_
  refine lv_iload_n hx hb dX0_canBeTuned_1 rfl (lv_at hl 1 rfl) ?_
  refine gh_ci (va_runV (As := [.int (nI k)]) (rest := []) ⟨hx, hb, hml, hown, hts⟩ (c_X0_hasGlass l G a sc o (nI k)) (cwV 1 hts gX0_canBeTuned_X0_hasGlass rfl rfl rfl ⟨rfl, hdS_X0_hasGlass⟩ ⟨Nat.le_of_ble_eq_true rfl, Nat.le_of_ble_eq_true rfl⟩) (gh_rV hE hP (ci := 0) (q0 := 0) rfl rfl) rfl rfl hl.1 rfl (lv_room (Nat.le_of_ble_eq_true rfl)) dX0_canBeTuned_2 ⟨Nat.le_of_ble_eq_true rfl, Nat.le_of_ble_eq_true rfl⟩) ?_
  refine gh_vv (y := 1) (gh_rg_1 hn (Nat.lt_of_le_of_lt hn16 (by decide)) hk) ?_
  refine lv_if_eq (tgt := 31) hx hb dX0_canBeTuned_5 (by decide) (fun c_1 => absurd c_1 (by decide)) (fun c_1 => ?_)
  refine lv_aload_n hx hb dX0_canBeTuned_8 rfl (lv_at hl 0 rfl) ?_
  refine va_get (D := G.1) (ci := 0) (v := .ref (a 4)) (C := RX0) (T := TX0) (N := 15) hx hb hts (fun w9 h9 => List.mem_cons_of_mem _ (List.mem_append_right _ h9)) hown hK hP 0 rfl rfl 4 (by decide) (hts (.fieldLink RX0 21 "GlassHarp$Orchestra" "cracked" "[Z") (List.mem_of_getElem? (i := 1) rfl)) (fun _ h9 => h9) rfl dX0_canBeTuned_9 ?_
  refine lv_iload_n hx hb dX0_canBeTuned_12 rfl (lv_at hl 1 rfl) ?_
  refine gh_za (f := o 4) hx hb hK hP 4 1 rfl rfl k (rfl) (by omega) (by decide) dX0_canBeTuned_13 ?_
  refine lv_if_ne (tgt := 31) hx hb dX0_canBeTuned_14 (by decide) (fun c_2 => ?_) (fun c_2 => ?_)
  · skip
    refine lv_iconst (v := 0) hx hb dX0_canBeTuned_31 (by decide) ?_
    exact W.zret (v := 0) hx hb hr (by decide) (fun t9 ht hW => ⟨0, rfl, by first | (simp only [gh_cb, c_1, c_2, ↓reduceIte, if_true, if_false]; done) | (simp only [gh_cb]; simp only [c_1, c_2, ↓reduceIte, if_true, if_false]; done), ht⟩) (fun q hq => absurd hq List.not_mem_nil) dX0_canBeTuned_32
  · skip
    refine lv_aload_n hx hb dX0_canBeTuned_17 rfl (lv_at hl 0 rfl) ?_
    refine lv_iload_n hx hb dX0_canBeTuned_18 rfl (lv_at hl 1 rfl) ?_
    refine lv_iload_n hx hb dX0_canBeTuned_19 rfl (lv_at hl 2 rfl) ?_
    refine gh_ci (va_runV (As := [.int (nI k), .int t]) (rest := []) ⟨hx, hb, hml, hown, hts⟩ (c_X0_fewestDropsFor l G a sc o n k t (hn) (hn16) (hk)) (cwV 2 hts gX0_canBeTuned_X0_fewestDropsFor rfl rfl rfl ⟨rfl, hdS_X0_fewestDropsFor⟩ ⟨Nat.le_of_ble_eq_true rfl, Nat.le_of_ble_eq_true rfl⟩) (gh_rV hE hP (ci := 0) (q0 := 0) rfl rfl) rfl rfl hl.1 rfl (lv_room (Nat.le_of_ble_eq_true rfl)) dX0_canBeTuned_20 ⟨Nat.le_of_ble_eq_true rfl, Nat.le_of_ble_eq_true rfl⟩) ?_
    refine lv_iconst (v := (-1)) hx hb dX0_canBeTuned_23 (by decide) ?_
    refine lv_icmp_eq (tgt := 31) hx hb dX0_canBeTuned_24 (by decide) (fun c_3 => ?_) (fun c_3 => ?_)
    · skip
      refine lv_iconst (v := 0) hx hb dX0_canBeTuned_31 (by decide) ?_
      exact W.zret (v := 0) hx hb hr (by decide) (fun t9 ht hW => ⟨0, rfl, by first | (simp only [gh_cb, c_1, c_2, c_3, ↓reduceIte, if_true, if_false]; done) | (simp only [gh_cb]; simp only [c_1, c_2, c_3, ↓reduceIte, if_true, if_false]; done), ht⟩) (fun q hq => absurd hq List.not_mem_nil) dX0_canBeTuned_32
    · skip
      refine lv_iconst (v := 1) hx hb dX0_canBeTuned_27 (by decide) ?_
      refine lv_goto (tgt := 32) hx hb dX0_canBeTuned_28 (by decide) ?_
      exact W.zret (v := 1) hx hb hr (by decide) (fun t9 ht hW => ⟨1, rfl, by first | (simp only [gh_cb, c_1, c_2, c_3, ↓reduceIte, if_true, if_false]; done) | (simp only [gh_cb]; simp only [c_1, c_2, c_3, ↓reduceIte, if_true, if_false]; done), ht⟩) (fun q hq => absurd hq List.not_mem_nil) dX0_canBeTuned_32
set_option maxHeartbeats 4000000 in
set_option maxRecDepth 100000 in
theorem c_X0_crackedGlasses (l : Launch) (G : gh_G) (a : Nat → Nat) (sc : Nat) (o : gh_B) (n : Nat) (hn : o 10 0 = nI n) (hn16 : n ≤ 16) : Met l yX0_crackedGlasses wsX0_crackedGlasses ({ frames := 0, cells := 0, slots := 0, locals := 0 } : Room) (gh_r G [.ref (a 0)] (wO G a sc o)) (vp_Si (fun r9 => r9 = gh_cn (o 4) n)) 0 0 (fun _ => False) := by
  refine Met.ofW (cc := cX0_crackedGlasses) (maxL := 3) (ret := (some .int)) (by decide) rfl ?_
  intro p e s m args below meth c s₁ B hml hv
  obtain ⟨rfl, hP, hE⟩ := hv
  have hx := B.exec
  have hb := B.bytes
  have hr := B.returns
  have hts := atoms_spec (ws := wsX0_crackedGlasses) B.pre
  have hown : s.vm.findClass RX0 = some m.cls := findClass_of_methodNamed B.named
  have hlocks := B.notSynchronized
  have hK := hE.1
  have hl := lv_entry ([.ref (a 0)]) (n := 3) (Nat.le_of_ble_eq_true rfl)
  rw [lg_entry_eq]
  generalize (lg_sl ([.ref (a 0)]) ++ List.replicate (3 - (lg_sl ([.ref (a 0)])).length) Slot.unset).toArray = ls at hl ⊢
  have hl : lv_has ls 3 [(0, .ref (a 0))] := hl
  refine lv_iconst (v := 0) hx hb dX0_crackedGlasses_0 (by decide) ?_
  refine lv_istore_n (lv' := [(1, .int 0), (0, .ref (a 0))]) hx hb dX0_crackedGlasses_1 rfl hl (by decide) rfl (fun ls hl => ?_)
  refine lv_iconst (v := 0) hx hb dX0_crackedGlasses_2 (by decide) ?_
  refine lv_istore_n (lv' := [(2, .int 0), (1, .int 0), (0, .ref (a 0))]) hx hb dX0_crackedGlasses_3 rfl hl (by decide) rfl (fun ls hl => ?_)
  have J4 : ∀ (x1 : Int32), x1 = gh_cn (o 4) 0 → ∀ (ls : Array Slot), lv_has ls 3 [(0, .ref (a 0)), (1, .int x1), (2, .int (nI 0))] → W p l e (headSpec wsX0_crackedGlasses ({ frames := 0, cells := 0, slots := 0, locals := 0 } : Room)).room s m ([.ref (a 0)] : List Value).toArray below meth c s.heap [] 0 0 (MQ below (vp_Si (fun r9 => r9 = gh_cn (o 4) n)) ([.ref (a 0)] : List Value).toArray s 0 0 (fun _ => False)) (F0 m 4 ls []) := by
    refine gh_loop (n := n) (i0 := 0) (Nat.zero_le _) (P := fun i => ∀ (x1 : Int32), x1 = gh_cn (o 4) i → ∀ (ls : Array Slot), lv_has ls 3 [(0, .ref (a 0)), (1, .int x1), (2, .int (nI i))] → W p l e (headSpec wsX0_crackedGlasses ({ frames := 0, cells := 0, slots := 0, locals := 0 } : Room)).room s m ([.ref (a 0)] : List Value).toArray below meth c s.heap [] 0 0 (MQ below (vp_Si (fun r9 => r9 = gh_cn (o 4) n)) ([.ref (a 0)] : List Value).toArray s 0 0 (fun _ => False)) (F0 m 4 ls [])) ?_ ?_
    · skip
      intro x1 e1 ls hl
      subst e1
      refine lv_iload_n hx hb dX0_crackedGlasses_4 rfl (lv_at hl 2 rfl) ?_
      refine lv_aload_n hx hb dX0_crackedGlasses_5 rfl (lv_at hl 0 rfl) ?_
      refine va_get (D := G.1) (ci := 0) (v := .int (o 10 0)) (C := RX0) (T := TX0) (N := 15) hx hb hts (fun w9 h9 => List.mem_cons_of_mem _ (List.mem_append_right _ h9)) hown hK hP 0 rfl rfl 10 (by decide) (hts (.fieldLink RX0 40 "GlassHarp$Orchestra" "glasses" "I") (List.mem_of_getElem? (i := 1) rfl)) (fun _ h9 => h9) rfl dX0_crackedGlasses_6 ?_
      refine gh_vv (y := nI n) (hn) ?_
      refine lv_icmp_ge (tgt := 30) hx hb dX0_crackedGlasses_9 (by decide) (fun c_1 => ?_) (fun c_1 => absurd (nI_le (Nat.le_refl _) (Nat.lt_of_le_of_lt hn16 (by decide))) c_1)
      refine lv_iload_n hx hb dX0_crackedGlasses_30 rfl (lv_at hl 1 rfl) ?_
      exact W.iret (v := gh_cn (o 4) n) hx hb hr (fun t9 ht hW => ⟨gh_cn (o 4) n, rfl, rfl, ht⟩) (fun q hq => absurd hq List.not_mem_nil) dX0_crackedGlasses_31
    · intro i hi_lo hi ih
      intro x1 e1 ls hl
      subst e1
      refine lv_iload_n hx hb dX0_crackedGlasses_4 rfl (lv_at hl 2 rfl) ?_
      refine lv_aload_n hx hb dX0_crackedGlasses_5 rfl (lv_at hl 0 rfl) ?_
      refine va_get (D := G.1) (ci := 0) (v := .int (o 10 0)) (C := RX0) (T := TX0) (N := 15) hx hb hts (fun w9 h9 => List.mem_cons_of_mem _ (List.mem_append_right _ h9)) hown hK hP 0 rfl rfl 10 (by decide) (hts (.fieldLink RX0 40 "GlassHarp$Orchestra" "glasses" "I") (List.mem_of_getElem? (i := 1) rfl)) (fun _ h9 => h9) rfl dX0_crackedGlasses_6 ?_
      refine gh_vv (y := nI n) (hn) ?_
      refine lv_icmp_ge (tgt := 30) hx hb dX0_crackedGlasses_9 (by decide) (fun c_2 => absurd c_2 (nI_ge hi (Nat.lt_of_le_of_lt hn16 (by decide)))) (fun c_2 => ?_)
      refine lv_aload_n hx hb dX0_crackedGlasses_12 rfl (lv_at hl 0 rfl) ?_
      refine va_get (D := G.1) (ci := 0) (v := .ref (a 4)) (C := RX0) (T := TX0) (N := 15) hx hb hts (fun w9 h9 => List.mem_cons_of_mem _ (List.mem_append_right _ h9)) hown hK hP 0 rfl rfl 4 (by decide) (hts (.fieldLink RX0 21 "GlassHarp$Orchestra" "cracked" "[Z") (List.mem_of_getElem? (i := 2) rfl)) (fun _ h9 => h9) rfl dX0_crackedGlasses_13 ?_
      refine lv_iload_n hx hb dX0_crackedGlasses_16 rfl (lv_at hl 2 rfl) ?_
      refine gh_za (f := o 4) hx hb hK hP 4 1 rfl rfl i (rfl) (by omega) (by decide) dX0_crackedGlasses_17 ?_
      refine lv_if_eq (tgt := 24) hx hb dX0_crackedGlasses_18 (by decide) (fun c_3 => ?_) (fun c_3 => ?_)
      · skip
        refine lv_iinc (v := nI (i + 1)) (lv' := [(2, .int (nI (i + 1))), (0, .ref (a 0)), (1, .int (gh_cn (o 4) i))]) hx hb dX0_crackedGlasses_24 hl (k := 2) rfl (nI_1 i) (by decide) rfl (fun ls hl => ?_)
        refine lv_goto (tgt := 4) hx hb dX0_crackedGlasses_27 (by decide) ?_
        exact ih (gh_cn (o 4) i) (by first | (simp only [gh_cn, c_2, c_3, ↓reduceIte, if_true, if_false]; done) | (simp only [gh_cn]; simp only [c_2, c_3, ↓reduceIte, if_true, if_false]; done)) _ (lv_sub hl [1, 2, 0] rfl)
      · skip
        refine lv_iinc (v := gh_cn (o 4) i + 1) (lv' := [(1, .int (gh_cn (o 4) i + 1)), (0, .ref (a 0)), (2, .int (nI i))]) hx hb dX0_crackedGlasses_21 hl (k := 1) rfl (rfl) (by decide) rfl (fun ls hl => ?_)
        refine lv_iinc (v := nI (i + 1)) (lv' := [(2, .int (nI (i + 1))), (1, .int (gh_cn (o 4) i + 1)), (0, .ref (a 0))]) hx hb dX0_crackedGlasses_24 hl (k := 2) rfl (nI_1 i) (by decide) rfl (fun ls hl => ?_)
        refine lv_goto (tgt := 4) hx hb dX0_crackedGlasses_27 (by decide) ?_
        exact ih (gh_cn (o 4) i + 1) (by first | (simp only [gh_cn, c_2, c_3, ↓reduceIte, if_true, if_false]; done) | (simp only [gh_cn]; simp only [c_2, c_3, ↓reduceIte, if_true, if_false]; done)) _ (lv_sub hl [2, 1, 0] rfl)
  exact J4 0 (by first | (simp only [gh_cn, ↓reduceIte, if_true, if_false]; done) | (simp only [gh_cn, ↓reduceIte, if_true, if_false]; rfl)) _ (lv_sub hl [2, 1, 0] rfl)
set_option maxHeartbeats 4000000 in
set_option maxRecDepth 100000 in
theorem c_X0_glassesInRow (l : Launch) (G : gh_G) (a : Nat → Nat) (sc : Nat) (o : gh_B) (n : Nat) (r : Int32) (hn : o 10 0 = nI n) (hn16 : n ≤ 16) : Met l yX0_glassesInRow wsX0_glassesInRow ({ frames := 0, cells := 0, slots := 0, locals := 0 } : Room) (gh_r G [.ref (a 0), .int r] (wO G a sc o)) (vp_Si (fun r9 => r9 = gh_cr (o 1) r n)) 0 0 (fun _ => False) := by
  refine Met.ofW (cc := cX0_glassesInRow) (maxL := 4) (ret := (some .int)) (by decide) rfl ?_
  intro p e s m args below meth c s₁ B hml hv
  obtain ⟨rfl, hP, hE⟩ := hv
  have hx := B.exec
  have hb := B.bytes
  have hr := B.returns
  have hts := atoms_spec (ws := wsX0_glassesInRow) B.pre
  have hown : s.vm.findClass RX0 = some m.cls := findClass_of_methodNamed B.named
  have hlocks := B.notSynchronized
  have hK := hE.1
  have hl := lv_entry ([.ref (a 0), .int r]) (n := 4) (Nat.le_of_ble_eq_true rfl)
  rw [lg_entry_eq]
  generalize (lg_sl ([.ref (a 0), .int r]) ++ List.replicate (4 - (lg_sl ([.ref (a 0), .int r])).length) Slot.unset).toArray = ls at hl ⊢
  have hl : lv_has ls 4 [(0, .ref (a 0)), (1, .int r)] := hl
  refine lv_iconst (v := 0) hx hb dX0_glassesInRow_0 (by decide) ?_
  refine lv_istore_n (lv' := [(2, .int 0), (0, .ref (a 0)), (1, .int r)]) hx hb dX0_glassesInRow_1 rfl hl (by decide) rfl (fun ls hl => ?_)
  refine lv_iconst (v := 0) hx hb dX0_glassesInRow_2 (by decide) ?_
  refine lv_istore_n (lv' := [(3, .int 0), (2, .int 0), (0, .ref (a 0)), (1, .int r)]) hx hb dX0_glassesInRow_3 rfl hl (by decide) rfl (fun ls hl => ?_)
  have J4 : ∀ (x1 : Int32), x1 = gh_cr (o 1) r 0 → ∀ (ls : Array Slot), lv_has ls 4 [(0, .ref (a 0)), (1, .int r), (2, .int x1), (3, .int (nI 0))] → W p l e (headSpec wsX0_glassesInRow ({ frames := 0, cells := 0, slots := 0, locals := 0 } : Room)).room s m ([.ref (a 0), .int r] : List Value).toArray below meth c s.heap [] 0 0 (MQ below (vp_Si (fun r9 => r9 = gh_cr (o 1) r n)) ([.ref (a 0), .int r] : List Value).toArray s 0 0 (fun _ => False)) (F0 m 4 ls []) := by
    refine gh_loop (n := n) (i0 := 0) (Nat.zero_le _) (P := fun i => ∀ (x1 : Int32), x1 = gh_cr (o 1) r i → ∀ (ls : Array Slot), lv_has ls 4 [(0, .ref (a 0)), (1, .int r), (2, .int x1), (3, .int (nI i))] → W p l e (headSpec wsX0_glassesInRow ({ frames := 0, cells := 0, slots := 0, locals := 0 } : Room)).room s m ([.ref (a 0), .int r] : List Value).toArray below meth c s.heap [] 0 0 (MQ below (vp_Si (fun r9 => r9 = gh_cr (o 1) r n)) ([.ref (a 0), .int r] : List Value).toArray s 0 0 (fun _ => False)) (F0 m 4 ls [])) ?_ ?_
    · skip
      intro x1 e1 ls hl
      subst e1
      refine lv_iload_n hx hb dX0_glassesInRow_4 rfl (lv_at hl 3 rfl) ?_
      refine lv_aload_n hx hb dX0_glassesInRow_5 rfl (lv_at hl 0 rfl) ?_
      refine va_get (D := G.1) (ci := 0) (v := .int (o 10 0)) (C := RX0) (T := TX0) (N := 15) hx hb hts (fun w9 h9 => List.mem_cons_of_mem _ (List.mem_append_right _ h9)) hown hK hP 0 rfl rfl 10 (by decide) (hts (.fieldLink RX0 40 "GlassHarp$Orchestra" "glasses" "I") (List.mem_of_getElem? (i := 1) rfl)) (fun _ h9 => h9) rfl dX0_glassesInRow_6 ?_
      refine gh_vv (y := nI n) (hn) ?_
      refine lv_icmp_ge (tgt := 31) hx hb dX0_glassesInRow_9 (by decide) (fun c_1 => ?_) (fun c_1 => absurd (nI_le (Nat.le_refl _) (Nat.lt_of_le_of_lt hn16 (by decide))) c_1)
      refine lv_iload_n hx hb dX0_glassesInRow_31 rfl (lv_at hl 2 rfl) ?_
      exact W.iret (v := gh_cr (o 1) r n) hx hb hr (fun t9 ht hW => ⟨gh_cr (o 1) r n, rfl, rfl, ht⟩) (fun q hq => absurd hq List.not_mem_nil) dX0_glassesInRow_32
    · intro i hi_lo hi ih
      intro x1 e1 ls hl
      subst e1
      refine lv_iload_n hx hb dX0_glassesInRow_4 rfl (lv_at hl 3 rfl) ?_
      refine lv_aload_n hx hb dX0_glassesInRow_5 rfl (lv_at hl 0 rfl) ?_
      refine va_get (D := G.1) (ci := 0) (v := .int (o 10 0)) (C := RX0) (T := TX0) (N := 15) hx hb hts (fun w9 h9 => List.mem_cons_of_mem _ (List.mem_append_right _ h9)) hown hK hP 0 rfl rfl 10 (by decide) (hts (.fieldLink RX0 40 "GlassHarp$Orchestra" "glasses" "I") (List.mem_of_getElem? (i := 1) rfl)) (fun _ h9 => h9) rfl dX0_glassesInRow_6 ?_
      refine gh_vv (y := nI n) (hn) ?_
      refine lv_icmp_ge (tgt := 31) hx hb dX0_glassesInRow_9 (by decide) (fun c_2 => absurd c_2 (nI_ge hi (Nat.lt_of_le_of_lt hn16 (by decide)))) (fun c_2 => ?_)
      refine lv_aload_n hx hb dX0_glassesInRow_12 rfl (lv_at hl 0 rfl) ?_
      refine va_get (D := G.1) (ci := 0) (v := .ref (a 1)) (C := RX0) (T := TX0) (N := 15) hx hb hts (fun w9 h9 => List.mem_cons_of_mem _ (List.mem_append_right _ h9)) hown hK hP 0 rfl rfl 1 (by decide) (hts (.fieldLink RX0 9 "GlassHarp$Orchestra" "rows" "[I") (List.mem_of_getElem? (i := 2) rfl)) (fun _ h9 => h9) rfl dX0_glassesInRow_13 ?_
      refine lv_iload_n hx hb dX0_glassesInRow_16 rfl (lv_at hl 3 rfl) ?_
      refine gh_ia (f := o 1) hx hb hK hP 1 0 rfl rfl i (rfl) (by omega) (by decide) dX0_glassesInRow_17 ?_
      refine lv_iload_n hx hb dX0_glassesInRow_18 rfl (lv_at hl 1 rfl) ?_
      refine lv_icmp_ne (tgt := 25) hx hb dX0_glassesInRow_19 (by decide) (fun c_3 => ?_) (fun c_3 => ?_)
      · skip
        refine lv_iinc (v := nI (i + 1)) (lv' := [(3, .int (nI (i + 1))), (0, .ref (a 0)), (1, .int r), (2, .int (gh_cr (o 1) r i))]) hx hb dX0_glassesInRow_25 hl (k := 3) rfl (nI_1 i) (by decide) rfl (fun ls hl => ?_)
        refine lv_goto (tgt := 4) hx hb dX0_glassesInRow_28 (by decide) ?_
        exact ih (gh_cr (o 1) r i) (by first | (simp only [gh_cr, c_2, c_3, ↓reduceIte, if_true, if_false]; done) | (simp only [gh_cr]; simp only [c_2, c_3, ↓reduceIte, if_true, if_false]; done)) _ (lv_sub hl [1, 2, 3, 0] rfl)
      · skip
        refine lv_iinc (v := gh_cr (o 1) r i + 1) (lv' := [(2, .int (gh_cr (o 1) r i + 1)), (0, .ref (a 0)), (1, .int r), (3, .int (nI i))]) hx hb dX0_glassesInRow_22 hl (k := 2) rfl (rfl) (by decide) rfl (fun ls hl => ?_)
        refine lv_iinc (v := nI (i + 1)) (lv' := [(3, .int (nI (i + 1))), (2, .int (gh_cr (o 1) r i + 1)), (0, .ref (a 0)), (1, .int r)]) hx hb dX0_glassesInRow_25 hl (k := 3) rfl (nI_1 i) (by decide) rfl (fun ls hl => ?_)
        refine lv_goto (tgt := 4) hx hb dX0_glassesInRow_28 (by decide) ?_
        exact ih (gh_cr (o 1) r i + 1) (by first | (simp only [gh_cr, c_2, c_3, ↓reduceIte, if_true, if_false]; done) | (simp only [gh_cr]; simp only [c_2, c_3, ↓reduceIte, if_true, if_false]; done)) _ (lv_sub hl [2, 3, 1, 0] rfl)
  exact J4 0 (by first | (simp only [gh_cr, ↓reduceIte, if_true, if_false]; done) | (simp only [gh_cr, ↓reduceIte, if_true, if_false]; rfl)) _ (lv_sub hl [2, 3, 1, 0] rfl)
set_option maxHeartbeats 4000000 in
set_option maxRecDepth 100000 in
theorem c_X0_allAir (l : Launch) (G : gh_G) (a : Nat → Nat) (sc : Nat) (o : gh_B)  : Met l yX0_allAir wsX0_allAir ({ frames := 0, cells := 0, slots := 0, locals := 0 } : Room) (gh_r G [.ref (a 0)] (wO G a sc o)) (vp_Si (fun r9 => r9 = gh_sm (o 8) 4)) 0 0 (fun _ => False) := by
  refine Met.ofW (cc := cX0_allAir) (maxL := 3) (ret := (some .int)) (by decide) rfl ?_
  intro p e s m args below meth c s₁ B hml hv
  obtain ⟨rfl, hP, hE⟩ := hv
  have hx := B.exec
  have hb := B.bytes
  have hr := B.returns
  have hts := atoms_spec (ws := wsX0_allAir) B.pre
  have hown : s.vm.findClass RX0 = some m.cls := findClass_of_methodNamed B.named
  have hlocks := B.notSynchronized
  have hK := hE.1
  have hl := lv_entry ([.ref (a 0)]) (n := 3) (Nat.le_of_ble_eq_true rfl)
  rw [lg_entry_eq]
  generalize (lg_sl ([.ref (a 0)]) ++ List.replicate (3 - (lg_sl ([.ref (a 0)])).length) Slot.unset).toArray = ls at hl ⊢
  have hl : lv_has ls 3 [(0, .ref (a 0))] := hl
  refine lv_iconst (v := 0) hx hb dX0_allAir_0 (by decide) ?_
  refine lv_istore_n (lv' := [(1, .int 0), (0, .ref (a 0))]) hx hb dX0_allAir_1 rfl hl (by decide) rfl (fun ls hl => ?_)
  refine lv_iconst (v := 0) hx hb dX0_allAir_2 (by decide) ?_
  refine lv_istore_n (lv' := [(2, .int 0), (1, .int 0), (0, .ref (a 0))]) hx hb dX0_allAir_3 rfl hl (by decide) rfl (fun ls hl => ?_)
  have J4 : ∀ (x1 : Int32), x1 = gh_sm (o 8) 0 → ∀ (ls : Array Slot), lv_has ls 3 [(0, .ref (a 0)), (1, .int x1), (2, .int (nI 0))] → W p l e (headSpec wsX0_allAir ({ frames := 0, cells := 0, slots := 0, locals := 0 } : Room)).room s m ([.ref (a 0)] : List Value).toArray below meth c s.heap [] 0 0 (MQ below (vp_Si (fun r9 => r9 = gh_sm (o 8) 4)) ([.ref (a 0)] : List Value).toArray s 0 0 (fun _ => False)) (F0 m 4 ls []) := by
    refine gh_loop (n := 4) (i0 := 0) (Nat.zero_le _) (P := fun i => ∀ (x1 : Int32), x1 = gh_sm (o 8) i → ∀ (ls : Array Slot), lv_has ls 3 [(0, .ref (a 0)), (1, .int x1), (2, .int (nI i))] → W p l e (headSpec wsX0_allAir ({ frames := 0, cells := 0, slots := 0, locals := 0 } : Room)).room s m ([.ref (a 0)] : List Value).toArray below meth c s.heap [] 0 0 (MQ below (vp_Si (fun r9 => r9 = gh_sm (o 8) 4)) ([.ref (a 0)] : List Value).toArray s 0 0 (fun _ => False)) (F0 m 4 ls [])) ?_ ?_
    · skip
      intro x1 e1 ls hl
      subst e1
      refine lv_iload_n hx hb dX0_allAir_4 rfl (lv_at hl 2 rfl) ?_
      refine lv_iconst (v := 4) hx hb dX0_allAir_5 (by decide) ?_
      refine lv_icmp_ge (tgt := 24) hx hb dX0_allAir_6 (by decide) (fun c_1 => ?_) (fun c_1 => absurd (nI_le (Nat.le_refl _) (by decide)) c_1)
      refine lv_iload_n hx hb dX0_allAir_24 rfl (lv_at hl 1 rfl) ?_
      exact W.iret (v := gh_sm (o 8) 4) hx hb hr (fun t9 ht hW => ⟨gh_sm (o 8) 4, rfl, rfl, ht⟩) (fun q hq => absurd hq List.not_mem_nil) dX0_allAir_25
    · intro i hi_lo hi ih
      intro x1 e1 ls hl
      subst e1
      refine lv_iload_n hx hb dX0_allAir_4 rfl (lv_at hl 2 rfl) ?_
      refine lv_iconst (v := 4) hx hb dX0_allAir_5 (by decide) ?_
      refine lv_icmp_ge (tgt := 24) hx hb dX0_allAir_6 (by decide) (fun c_2 => absurd c_2 (nI_ge hi (by decide))) (fun c_2 => ?_)
      refine lv_iload_n hx hb dX0_allAir_9 rfl (lv_at hl 1 rfl) ?_
      refine lv_aload_n hx hb dX0_allAir_10 rfl (lv_at hl 0 rfl) ?_
      refine va_get (D := G.1) (ci := 0) (v := .ref (a 8)) (C := RX0) (T := TX0) (N := 15) hx hb hts (fun w9 h9 => List.mem_cons_of_mem _ (List.mem_append_right _ h9)) hown hK hP 0 rfl rfl 8 (by decide) (hts (.fieldLink RX0 34 "GlassHarp$Orchestra" "air" "[I") (List.mem_of_getElem? (i := 1) rfl)) (fun _ h9 => h9) rfl dX0_allAir_11 ?_
      refine lv_iload_n hx hb dX0_allAir_14 rfl (lv_at hl 2 rfl) ?_
      refine gh_ia (f := o 8) hx hb hK hP 8 0 rfl rfl i (rfl) (by omega) (by decide) dX0_allAir_15 ?_
      refine lv_iadd hx hb dX0_allAir_16 ?_
      refine lv_istore_n (lv' := [(1, .int ((gh_sm (o 8) i) + (o 8 i))), (0, .ref (a 0)), (2, .int (nI i))]) hx hb dX0_allAir_17 rfl hl (by decide) rfl (fun ls hl => ?_)
      refine lv_iinc (v := nI (i + 1)) (lv' := [(2, .int (nI (i + 1))), (1, .int ((gh_sm (o 8) i) + (o 8 i))), (0, .ref (a 0))]) hx hb dX0_allAir_18 hl (k := 2) rfl (nI_1 i) (by decide) rfl (fun ls hl => ?_)
      refine lv_goto (tgt := 4) hx hb dX0_allAir_21 (by decide) ?_
      exact ih ((gh_sm (o 8) i) + (o 8 i)) (by first | (simp only [gh_sm, c_2, ↓reduceIte, if_true, if_false]; done) | (simp only [gh_sm]; simp only [c_2, ↓reduceIte, if_true, if_false]; done)) _ (lv_sub hl [2, 1, 0] rfl)
  exact J4 0 (by first | (simp only [gh_sm, ↓reduceIte, if_true, if_false]; done) | (simp only [gh_sm, ↓reduceIte, if_true, if_false]; rfl)) _ (lv_sub hl [2, 1, 0] rfl)
set_option maxHeartbeats 4000000 in
set_option maxRecDepth 100000 in
theorem c_X0_beatAgainst (l : Launch) (G : gh_G) (a : Nat → Nat) (sc : Nat) (o : gh_B) (n : Nat) (g : Nat) (j : Nat) (hn : o 10 0 = nI n) (hn16 : n ≤ 16) (hg : g < n) (hj : j < n) : Met l yX0_beatAgainst wsX0_beatAgainst ({ frames := 2, cells := 0, slots := 0, locals := 44 } : Room) (gh_r G [.ref (a 0), .int (nI g), .int (nI j)] (wO G a sc o)) (vp_Si (fun r9 => r9 = gh_ba o g j)) 0 0 (fun _ => False) := by
  refine Met.ofW (cc := cX0_beatAgainst) (maxL := 3) (ret := (some .boolean)) (by decide) rfl ?_
  intro p e s m args below meth c s₁ B hml hv
  obtain ⟨rfl, hP, hE⟩ := hv
  have hx := B.exec
  have hb := B.bytes
  have hr := B.returns
  have hts := atoms_spec (ws := wsX0_beatAgainst) B.pre
  have hown : s.vm.findClass RX0 = some m.cls := findClass_of_methodNamed B.named
  have hlocks := B.notSynchronized
  have hK := hE.1
  have hl := lv_entry ([.ref (a 0), .int (nI g), .int (nI j)]) (n := 3) (Nat.le_of_ble_eq_true rfl)
  rw [lg_entry_eq]
  generalize (lg_sl ([.ref (a 0), .int (nI g), .int (nI j)]) ++ List.replicate (3 - (lg_sl ([.ref (a 0), .int (nI g), .int (nI j)])).length) Slot.unset).toArray = ls at hl ⊢
  have hl : lv_has ls 3 [(0, .ref (a 0)), (1, .int (nI g)), (2, .int (nI j))] := hl
  refine lv_aload_n hx hb dX0_beatAgainst_0 rfl (lv_at hl 0 rfl) ?_
  refine lv_iload_n hx hb dX0_beatAgainst_1 rfl (lv_at hl 1 rfl) ?_
  refine gh_ci (va_runV (As := [.int (nI g)]) (rest := []) ⟨hx, hb, hml, hown, hts⟩ (c_X0_hasGlass l G a sc o (nI g)) (cwV 1 hts gX0_beatAgainst_X0_hasGlass rfl rfl rfl ⟨rfl, hdS_X0_hasGlass⟩ ⟨Nat.le_of_ble_eq_true rfl, Nat.le_of_ble_eq_true rfl⟩) (gh_rV hE hP (ci := 0) (q0 := 0) rfl rfl) rfl rfl hl.1 rfl (lv_room (Nat.le_of_ble_eq_true rfl)) dX0_beatAgainst_2 ⟨Nat.le_of_ble_eq_true rfl, Nat.le_of_ble_eq_true rfl⟩) ?_
  refine gh_vv (y := 1) (gh_rg_1 hn (Nat.lt_of_le_of_lt hn16 (by decide)) hg) ?_
  refine lv_if_eq (tgt := 36) hx hb dX0_beatAgainst_5 (by decide) (fun c_1 => absurd c_1 (by decide)) (fun c_1 => ?_)
  refine lv_aload_n hx hb dX0_beatAgainst_8 rfl (lv_at hl 0 rfl) ?_
  refine lv_iload_n hx hb dX0_beatAgainst_9 rfl (lv_at hl 2 rfl) ?_
  refine gh_ci (va_runV (As := [.int (nI j)]) (rest := []) ⟨hx, hb, hml, hown, hts⟩ (c_X0_hasGlass l G a sc o (nI j)) (cwV 1 hts gX0_beatAgainst_X0_hasGlass rfl rfl rfl ⟨rfl, hdS_X0_hasGlass⟩ ⟨Nat.le_of_ble_eq_true rfl, Nat.le_of_ble_eq_true rfl⟩) (gh_rV hE hP (ci := 0) (q0 := 0) rfl rfl) rfl rfl hl.1 rfl (lv_room (Nat.le_of_ble_eq_true rfl)) dX0_beatAgainst_10 ⟨Nat.le_of_ble_eq_true rfl, Nat.le_of_ble_eq_true rfl⟩) ?_
  refine gh_vv (y := 1) (gh_rg_1 hn (Nat.lt_of_le_of_lt hn16 (by decide)) hj) ?_
  refine lv_if_eq (tgt := 36) hx hb dX0_beatAgainst_13 (by decide) (fun c_2 => absurd c_2 (by decide)) (fun c_2 => ?_)
  refine lv_aload_n hx hb dX0_beatAgainst_16 rfl (lv_at hl 0 rfl) ?_
  refine va_get (D := G.1) (ci := 0) (v := .ref (a 5)) (C := RX0) (T := TX0) (N := 15) hx hb hts (fun w9 h9 => List.mem_cons_of_mem _ (List.mem_append_right _ h9)) hown hK hP 0 rfl rfl 5 (by decide) (hts (.fieldLink RX0 25 "GlassHarp$Orchestra" "rings" "[I") (List.mem_of_getElem? (i := 1) rfl)) (fun _ h9 => h9) rfl dX0_beatAgainst_17 ?_
  refine lv_iload_n hx hb dX0_beatAgainst_20 rfl (lv_at hl 1 rfl) ?_
  refine gh_ia (f := o 5) hx hb hK hP 5 0 rfl rfl g (rfl) (by omega) (by decide) dX0_beatAgainst_21 ?_
  refine lv_iconst (v := 1) hx hb dX0_beatAgainst_22 (by decide) ?_
  refine lv_icmp_lt (tgt := 36) hx hb dX0_beatAgainst_23 (by decide) (fun c_3 => ?_) (fun c_3 => ?_)
  · skip
    refine lv_iconst (v := 0) hx hb dX0_beatAgainst_36 (by decide) ?_
    exact W.zret (v := 0) hx hb hr (by decide) (fun t9 ht hW => ⟨0, rfl, by first | (simp only [gh_ba, c_1, c_2, c_3, ↓reduceIte, if_true, if_false]; done) | (simp only [gh_ba]; simp only [c_1, c_2, c_3, ↓reduceIte, if_true, if_false]; done), ht⟩) (fun q hq => absurd hq List.not_mem_nil) dX0_beatAgainst_37
  · skip
    refine lv_aload_n hx hb dX0_beatAgainst_26 rfl (lv_at hl 0 rfl) ?_
    refine va_get (D := G.1) (ci := 0) (v := .ref (a 5)) (C := RX0) (T := TX0) (N := 15) hx hb hts (fun w9 h9 => List.mem_cons_of_mem _ (List.mem_append_right _ h9)) hown hK hP 0 rfl rfl 5 (by decide) (hts (.fieldLink RX0 25 "GlassHarp$Orchestra" "rings" "[I") (List.mem_of_getElem? (i := 1) rfl)) (fun _ h9 => h9) rfl dX0_beatAgainst_27 ?_
    refine lv_iload_n hx hb dX0_beatAgainst_30 rfl (lv_at hl 2 rfl) ?_
    refine gh_ia (f := o 5) hx hb hK hP 5 0 rfl rfl j (rfl) (by omega) (by decide) dX0_beatAgainst_31 ?_
    refine lv_iconst (v := 1) hx hb dX0_beatAgainst_32 (by decide) ?_
    refine lv_icmp_ge (tgt := 38) hx hb dX0_beatAgainst_33 (by decide) (fun c_4 => ?_) (fun c_4 => ?_)
    · skip
      refine lv_aload_n hx hb dX0_beatAgainst_38 rfl (lv_at hl 0 rfl) ?_
      refine lv_iload_n hx hb dX0_beatAgainst_39 rfl (lv_at hl 1 rfl) ?_
      refine gh_ci (va_runV (As := [.int (nI g)]) (rest := []) ⟨hx, hb, hml, hown, hts⟩ (c_X0_toneOf l G a sc o n g (hn) (hn16) (hg)) (cwV 1 hts gX0_beatAgainst_X0_toneOf rfl rfl rfl ⟨rfl, hdS_X0_toneOf⟩ ⟨Nat.le_of_ble_eq_true rfl, Nat.le_of_ble_eq_true rfl⟩) (gh_rV hE hP (ci := 0) (q0 := 0) rfl rfl) rfl rfl hl.1 rfl (lv_room (Nat.le_of_ble_eq_true rfl)) dX0_beatAgainst_40 ⟨Nat.le_of_ble_eq_true rfl, Nat.le_of_ble_eq_true rfl⟩) ?_
      refine lv_aload_n hx hb dX0_beatAgainst_43 rfl (lv_at hl 0 rfl) ?_
      refine lv_iload_n hx hb dX0_beatAgainst_44 rfl (lv_at hl 2 rfl) ?_
      refine gh_ci (va_runV (As := [.int (nI j)]) (rest := [.int (gh_tn o g)]) ⟨hx, hb, hml, hown, hts⟩ (c_X0_toneOf l G a sc o n j (hn) (hn16) (hj)) (cwV 1 hts gX0_beatAgainst_X0_toneOf rfl rfl rfl ⟨rfl, hdS_X0_toneOf⟩ ⟨Nat.le_of_ble_eq_true rfl, Nat.le_of_ble_eq_true rfl⟩) (gh_rV hE hP (ci := 0) (q0 := 0) rfl rfl) rfl rfl hl.1 rfl (lv_room (Nat.le_of_ble_eq_true rfl)) dX0_beatAgainst_45 ⟨Nat.le_of_ble_eq_true rfl, Nat.le_of_ble_eq_true rfl⟩) ?_
      refine gh_ci (va_runSN (As := [.int (gh_tn o g), .int (gh_tn o j)]) (rest := []) ⟨hx, hb, hml, hown, hts⟩ (c_X2_distance l G (gh_tn o g) (gh_tn o j)) ⟨va_cnB 2 hts gX0_beatAgainst_X2_distance_n94 rfl rfl rfl (hE.2.1 (RX0, 94, yX2_distance, RX2) (List.mem_of_getElem? (i := 5) rfl)) (hts (.initialized RX2) (List.mem_of_getElem? (i := 25) rfl)) hdS_X2_distance ⟨Nat.le_of_ble_eq_true rfl, Nat.le_of_ble_eq_true rfl⟩, (hts (.static yX2_distance) (List.mem_of_getElem? (i := 24) rfl)), trivial⟩ (gh_rS hE (fun k q h => by simp at h)) rfl rfl hl.1 rfl (lv_room (Nat.le_of_ble_eq_true rfl)) dX0_beatAgainst_48 ⟨Nat.le_of_ble_eq_true rfl, Nat.le_of_ble_eq_true rfl⟩) ?_
      refine lv_iconst (v := 1) hx hb dX0_beatAgainst_51 (by decide) ?_
      refine lv_iconst (v := 2) hx hb dX0_beatAgainst_52 (by decide) ?_
      refine gh_ci (va_runSN (As := [.int (gh_ds (gh_tn o g) (gh_tn o j)), .int 1, .int 2]) (rest := []) ⟨hx, hb, hml, hown, hts⟩ (c_X2_isWithin l G (gh_ds (gh_tn o g) (gh_tn o j)) 1 2) ⟨va_cnB 3 hts gX0_beatAgainst_X2_isWithin_n60 rfl rfl rfl (hE.2.1 (RX0, 60, yX2_isWithin, RX2) (List.mem_of_getElem? (i := 6) rfl)) (hts (.initialized RX2) (List.mem_of_getElem? (i := 25) rfl)) hdS_X2_isWithin ⟨Nat.le_of_ble_eq_true rfl, Nat.le_of_ble_eq_true rfl⟩, (hts (.static yX2_isWithin) (List.mem_of_getElem? (i := 27) rfl)), trivial⟩ (gh_rS hE (fun k q h => by simp at h)) rfl rfl hl.1 rfl (lv_room (Nat.le_of_ble_eq_true rfl)) dX0_beatAgainst_53 ⟨Nat.le_of_ble_eq_true rfl, Nat.le_of_ble_eq_true rfl⟩) ?_
      exact W.zret (v := gh_iw (gh_ds (gh_tn o g) (gh_tn o j)) 1 2) hx hb hr (gh_iwb _ _ _) (fun t9 ht hW => ⟨gh_iw (gh_ds (gh_tn o g) (gh_tn o j)) 1 2, rfl, by first | (simp only [gh_ba, c_1, c_2, c_3, c_4, ↓reduceIte, if_true, if_false]; done) | (simp only [gh_ba]; simp only [c_1, c_2, c_3, c_4, ↓reduceIte, if_true, if_false]; done), ht⟩) (fun q hq => absurd hq List.not_mem_nil) dX0_beatAgainst_56
    · skip
      refine lv_iconst (v := 0) hx hb dX0_beatAgainst_36 (by decide) ?_
      exact W.zret (v := 0) hx hb hr (by decide) (fun t9 ht hW => ⟨0, rfl, by first | (simp only [gh_ba, c_1, c_2, c_3, c_4, ↓reduceIte, if_true, if_false]; done) | (simp only [gh_ba]; simp only [c_1, c_2, c_3, c_4, ↓reduceIte, if_true, if_false]; done), ht⟩) (fun q hq => absurd hq List.not_mem_nil) dX0_beatAgainst_37
set_option maxHeartbeats 4000000 in
set_option maxRecDepth 100000 in
theorem c_X0_glassesBeatingAgainst (l : Launch) (G : gh_G) (a : Nat → Nat) (sc : Nat) (o : gh_B) (n : Nat) (k : Nat) (hn : o 10 0 = nI n) (hn16 : n ≤ 16) (hk : k < n) : Met l yX0_glassesBeatingAgainst wsX0_glassesBeatingAgainst ({ frames := 3, cells := 0, slots := 0, locals := 66 } : Room) (gh_r G [.ref (a 0), .int (nI k)] (wO G a sc o)) (vp_Si (fun r9 => r9 = gh_cn (gh_ba o k) n)) 0 0 (fun _ => False) := by
  refine Met.ofW (cc := cX0_glassesBeatingAgainst) (maxL := 4) (ret := (some .int)) (by decide) rfl ?_
  intro p e s m args below meth c s₁ B hml hv
  obtain ⟨rfl, hP, hE⟩ := hv
  have hx := B.exec
  have hb := B.bytes
  have hr := B.returns
  have hts := atoms_spec (ws := wsX0_glassesBeatingAgainst) B.pre
  have hown : s.vm.findClass RX0 = some m.cls := findClass_of_methodNamed B.named
  have hlocks := B.notSynchronized
  have hK := hE.1
  have hl := lv_entry ([.ref (a 0), .int (nI k)]) (n := 4) (Nat.le_of_ble_eq_true rfl)
  rw [lg_entry_eq]
  generalize (lg_sl ([.ref (a 0), .int (nI k)]) ++ List.replicate (4 - (lg_sl ([.ref (a 0), .int (nI k)])).length) Slot.unset).toArray = ls at hl ⊢
  have hl : lv_has ls 4 [(0, .ref (a 0)), (1, .int (nI k))] := hl
  refine lv_iconst (v := 0) hx hb dX0_glassesBeatingAgainst_0 (by decide) ?_
  refine lv_istore_n (lv' := [(2, .int 0), (0, .ref (a 0)), (1, .int (nI k))]) hx hb dX0_glassesBeatingAgainst_1 rfl hl (by decide) rfl (fun ls hl => ?_)
  refine lv_iconst (v := 0) hx hb dX0_glassesBeatingAgainst_2 (by decide) ?_
  refine lv_istore_n (lv' := [(3, .int 0), (2, .int 0), (0, .ref (a 0)), (1, .int (nI k))]) hx hb dX0_glassesBeatingAgainst_3 rfl hl (by decide) rfl (fun ls hl => ?_)
  have J4 : ∀ (x1 : Int32), x1 = gh_cn (gh_ba o k) 0 → ∀ (ls : Array Slot), lv_has ls 4 [(0, .ref (a 0)), (1, .int (nI k)), (2, .int x1), (3, .int (nI 0))] → W p l e (headSpec wsX0_glassesBeatingAgainst ({ frames := 3, cells := 0, slots := 0, locals := 66 } : Room)).room s m ([.ref (a 0), .int (nI k)] : List Value).toArray below meth c s.heap [] 0 0 (MQ below (vp_Si (fun r9 => r9 = gh_cn (gh_ba o k) n)) ([.ref (a 0), .int (nI k)] : List Value).toArray s 0 0 (fun _ => False)) (F0 m 4 ls []) := by
    refine gh_loop (n := n) (i0 := 0) (Nat.zero_le _) (P := fun i => ∀ (x1 : Int32), x1 = gh_cn (gh_ba o k) i → ∀ (ls : Array Slot), lv_has ls 4 [(0, .ref (a 0)), (1, .int (nI k)), (2, .int x1), (3, .int (nI i))] → W p l e (headSpec wsX0_glassesBeatingAgainst ({ frames := 3, cells := 0, slots := 0, locals := 66 } : Room)).room s m ([.ref (a 0), .int (nI k)] : List Value).toArray below meth c s.heap [] 0 0 (MQ below (vp_Si (fun r9 => r9 = gh_cn (gh_ba o k) n)) ([.ref (a 0), .int (nI k)] : List Value).toArray s 0 0 (fun _ => False)) (F0 m 4 ls [])) ?_ ?_
    · skip
      intro x1 e1 ls hl
      subst e1
      refine lv_iload_n hx hb dX0_glassesBeatingAgainst_4 rfl (lv_at hl 3 rfl) ?_
      refine lv_aload_n hx hb dX0_glassesBeatingAgainst_5 rfl (lv_at hl 0 rfl) ?_
      refine va_get (D := G.1) (ci := 0) (v := .int (o 10 0)) (C := RX0) (T := TX0) (N := 15) hx hb hts (fun w9 h9 => List.mem_cons_of_mem _ (List.mem_append_right _ h9)) hown hK hP 0 rfl rfl 10 (by decide) (hts (.fieldLink RX0 40 "GlassHarp$Orchestra" "glasses" "I") (List.mem_of_getElem? (i := 1) rfl)) (fun _ h9 => h9) rfl dX0_glassesBeatingAgainst_6 ?_
      refine gh_vv (y := nI n) (hn) ?_
      refine lv_icmp_ge (tgt := 30) hx hb dX0_glassesBeatingAgainst_9 (by decide) (fun c_1 => ?_) (fun c_1 => absurd (nI_le (Nat.le_refl _) (Nat.lt_of_le_of_lt hn16 (by decide))) c_1)
      refine lv_iload_n hx hb dX0_glassesBeatingAgainst_30 rfl (lv_at hl 2 rfl) ?_
      exact W.iret (v := gh_cn (gh_ba o k) n) hx hb hr (fun t9 ht hW => ⟨gh_cn (gh_ba o k) n, rfl, rfl, ht⟩) (fun q hq => absurd hq List.not_mem_nil) dX0_glassesBeatingAgainst_31
    · intro i hi_lo hi ih
      intro x1 e1 ls hl
      subst e1
      refine lv_iload_n hx hb dX0_glassesBeatingAgainst_4 rfl (lv_at hl 3 rfl) ?_
      refine lv_aload_n hx hb dX0_glassesBeatingAgainst_5 rfl (lv_at hl 0 rfl) ?_
      refine va_get (D := G.1) (ci := 0) (v := .int (o 10 0)) (C := RX0) (T := TX0) (N := 15) hx hb hts (fun w9 h9 => List.mem_cons_of_mem _ (List.mem_append_right _ h9)) hown hK hP 0 rfl rfl 10 (by decide) (hts (.fieldLink RX0 40 "GlassHarp$Orchestra" "glasses" "I") (List.mem_of_getElem? (i := 1) rfl)) (fun _ h9 => h9) rfl dX0_glassesBeatingAgainst_6 ?_
      refine gh_vv (y := nI n) (hn) ?_
      refine lv_icmp_ge (tgt := 30) hx hb dX0_glassesBeatingAgainst_9 (by decide) (fun c_2 => absurd c_2 (nI_ge hi (Nat.lt_of_le_of_lt hn16 (by decide)))) (fun c_2 => ?_)
      refine lv_aload_n hx hb dX0_glassesBeatingAgainst_12 rfl (lv_at hl 0 rfl) ?_
      refine lv_iload_n hx hb dX0_glassesBeatingAgainst_13 rfl (lv_at hl 1 rfl) ?_
      refine lv_iload_n hx hb dX0_glassesBeatingAgainst_14 rfl (lv_at hl 3 rfl) ?_
      refine gh_ci (va_runV (As := [.int (nI k), .int (nI i)]) (rest := []) ⟨hx, hb, hml, hown, hts⟩ (c_X0_beatAgainst l G a sc o n k i (hn) (hn16) (hk) (hi)) (cwV 2 hts gX0_glassesBeatingAgainst_X0_beatAgainst rfl rfl rfl ⟨rfl, hdS_X0_beatAgainst⟩ ⟨Nat.le_of_ble_eq_true rfl, Nat.le_of_ble_eq_true rfl⟩) (gh_rV hE hP (ci := 0) (q0 := 0) rfl rfl) rfl rfl hl.1 rfl (lv_room (Nat.le_of_ble_eq_true rfl)) dX0_glassesBeatingAgainst_15 ⟨Nat.le_of_ble_eq_true rfl, Nat.le_of_ble_eq_true rfl⟩) ?_
      refine lv_if_eq (tgt := 24) hx hb dX0_glassesBeatingAgainst_18 (by decide) (fun c_3 => ?_) (fun c_3 => ?_)
      · skip
        refine lv_iinc (v := nI (i + 1)) (lv' := [(3, .int (nI (i + 1))), (0, .ref (a 0)), (1, .int (nI k)), (2, .int (gh_cn (gh_ba o k) i))]) hx hb dX0_glassesBeatingAgainst_24 hl (k := 3) rfl (nI_1 i) (by decide) rfl (fun ls hl => ?_)
        refine lv_goto (tgt := 4) hx hb dX0_glassesBeatingAgainst_27 (by decide) ?_
        exact ih (gh_cn (gh_ba o k) i) (by first | (simp only [gh_cn, c_2, c_3, ↓reduceIte, if_true, if_false]; done) | (simp only [gh_cn]; simp only [c_2, c_3, ↓reduceIte, if_true, if_false]; done)) _ (lv_sub hl [1, 2, 3, 0] rfl)
      · skip
        refine lv_iinc (v := gh_cn (gh_ba o k) i + 1) (lv' := [(2, .int (gh_cn (gh_ba o k) i + 1)), (0, .ref (a 0)), (1, .int (nI k)), (3, .int (nI i))]) hx hb dX0_glassesBeatingAgainst_21 hl (k := 2) rfl (rfl) (by decide) rfl (fun ls hl => ?_)
        refine lv_iinc (v := nI (i + 1)) (lv' := [(3, .int (nI (i + 1))), (2, .int (gh_cn (gh_ba o k) i + 1)), (0, .ref (a 0)), (1, .int (nI k))]) hx hb dX0_glassesBeatingAgainst_24 hl (k := 3) rfl (nI_1 i) (by decide) rfl (fun ls hl => ?_)
        refine lv_goto (tgt := 4) hx hb dX0_glassesBeatingAgainst_27 (by decide) ?_
        exact ih (gh_cn (gh_ba o k) i + 1) (by first | (simp only [gh_cn, c_2, c_3, ↓reduceIte, if_true, if_false]; done) | (simp only [gh_cn]; simp only [c_2, c_3, ↓reduceIte, if_true, if_false]; done)) _ (lv_sub hl [2, 3, 1, 0] rfl)
  exact J4 0 (by first | (simp only [gh_cn, ↓reduceIte, if_true, if_false]; done) | (simp only [gh_cn, ↓reduceIte, if_true, if_false]; rfl)) _ (lv_sub hl [2, 3, 1, 0] rfl)
set_option maxHeartbeats 4000000 in
set_option maxRecDepth 100000 in
theorem c_X0_pairsBeating (l : Launch) (G : gh_G) (a : Nat → Nat) (sc : Nat) (o : gh_B) (n : Nat) (hn : o 10 0 = nI n) (hn16 : n ≤ 16) : Met l yX0_pairsBeating wsX0_pairsBeating ({ frames := 4, cells := 0, slots := 0, locals := 89 } : Room) (gh_r G [.ref (a 0)] (wO G a sc o)) (vp_Si (fun r9 => r9 = gh_sm (fun i => gh_cn (gh_ba o i) n) n / 2)) 0 0 (fun _ => False) := by
  refine Met.ofW (cc := cX0_pairsBeating) (maxL := 3) (ret := (some .int)) (by decide) rfl ?_
  intro p e s m args below meth c s₁ B hml hv
  obtain ⟨rfl, hP, hE⟩ := hv
  have hx := B.exec
  have hb := B.bytes
  have hr := B.returns
  have hts := atoms_spec (ws := wsX0_pairsBeating) B.pre
  have hown : s.vm.findClass RX0 = some m.cls := findClass_of_methodNamed B.named
  have hlocks := B.notSynchronized
  have hK := hE.1
  have hl := lv_entry ([.ref (a 0)]) (n := 3) (Nat.le_of_ble_eq_true rfl)
  rw [lg_entry_eq]
  generalize (lg_sl ([.ref (a 0)]) ++ List.replicate (3 - (lg_sl ([.ref (a 0)])).length) Slot.unset).toArray = ls at hl ⊢
  have hl : lv_has ls 3 [(0, .ref (a 0))] := hl
  refine lv_iconst (v := 0) hx hb dX0_pairsBeating_0 (by decide) ?_
  refine lv_istore_n (lv' := [(1, .int 0), (0, .ref (a 0))]) hx hb dX0_pairsBeating_1 rfl hl (by decide) rfl (fun ls hl => ?_)
  refine lv_iconst (v := 0) hx hb dX0_pairsBeating_2 (by decide) ?_
  refine lv_istore_n (lv' := [(2, .int 0), (1, .int 0), (0, .ref (a 0))]) hx hb dX0_pairsBeating_3 rfl hl (by decide) rfl (fun ls hl => ?_)
  have J4 : ∀ (x1 : Int32), x1 = gh_sm (fun i => gh_cn (gh_ba o i) n) 0 → ∀ (ls : Array Slot), lv_has ls 3 [(0, .ref (a 0)), (1, .int x1), (2, .int (nI 0))] → W p l e (headSpec wsX0_pairsBeating ({ frames := 4, cells := 0, slots := 0, locals := 89 } : Room)).room s m ([.ref (a 0)] : List Value).toArray below meth c s.heap [] 0 0 (MQ below (vp_Si (fun r9 => r9 = gh_sm (fun i => gh_cn (gh_ba o i) n) n / 2)) ([.ref (a 0)] : List Value).toArray s 0 0 (fun _ => False)) (F0 m 4 ls []) := by
    refine gh_loop (n := n) (i0 := 0) (Nat.zero_le _) (P := fun i => ∀ (x1 : Int32), x1 = gh_sm (fun i => gh_cn (gh_ba o i) n) i → ∀ (ls : Array Slot), lv_has ls 3 [(0, .ref (a 0)), (1, .int x1), (2, .int (nI i))] → W p l e (headSpec wsX0_pairsBeating ({ frames := 4, cells := 0, slots := 0, locals := 89 } : Room)).room s m ([.ref (a 0)] : List Value).toArray below meth c s.heap [] 0 0 (MQ below (vp_Si (fun r9 => r9 = gh_sm (fun i => gh_cn (gh_ba o i) n) n / 2)) ([.ref (a 0)] : List Value).toArray s 0 0 (fun _ => False)) (F0 m 4 ls [])) ?_ ?_
    · skip
      intro x1 e1 ls hl
      subst e1
      refine lv_iload_n hx hb dX0_pairsBeating_4 rfl (lv_at hl 2 rfl) ?_
      refine lv_aload_n hx hb dX0_pairsBeating_5 rfl (lv_at hl 0 rfl) ?_
      refine va_get (D := G.1) (ci := 0) (v := .int (o 10 0)) (C := RX0) (T := TX0) (N := 15) hx hb hts (fun w9 h9 => List.mem_cons_of_mem _ (List.mem_append_right _ h9)) hown hK hP 0 rfl rfl 10 (by decide) (hts (.fieldLink RX0 40 "GlassHarp$Orchestra" "glasses" "I") (List.mem_of_getElem? (i := 1) rfl)) (fun _ h9 => h9) rfl dX0_pairsBeating_6 ?_
      refine gh_vv (y := nI n) (hn) ?_
      refine lv_icmp_ge (tgt := 26) hx hb dX0_pairsBeating_9 (by decide) (fun c_1 => ?_) (fun c_1 => absurd (nI_le (Nat.le_refl _) (Nat.lt_of_le_of_lt hn16 (by decide))) c_1)
      refine lv_iload_n hx hb dX0_pairsBeating_26 rfl (lv_at hl 1 rfl) ?_
      refine lv_iconst (v := 2) hx hb dX0_pairsBeating_27 (by decide) ?_
      refine lv_idiv hx hb dX0_pairsBeating_28 (by decide) ?_
      exact W.iret (v := (gh_sm (fun i => gh_cn (gh_ba o i) n) n) / 2) hx hb hr (fun t9 ht hW => ⟨(gh_sm (fun i => gh_cn (gh_ba o i) n) n) / 2, rfl, by first | (simp only [gh_sm, c_1, ↓reduceIte, if_true, if_false]; done) | (simp only [gh_sm]; simp only [c_1, ↓reduceIte, if_true, if_false]; done), ht⟩) (fun q hq => absurd hq List.not_mem_nil) dX0_pairsBeating_29
    · intro i hi_lo hi ih
      intro x1 e1 ls hl
      subst e1
      refine lv_iload_n hx hb dX0_pairsBeating_4 rfl (lv_at hl 2 rfl) ?_
      refine lv_aload_n hx hb dX0_pairsBeating_5 rfl (lv_at hl 0 rfl) ?_
      refine va_get (D := G.1) (ci := 0) (v := .int (o 10 0)) (C := RX0) (T := TX0) (N := 15) hx hb hts (fun w9 h9 => List.mem_cons_of_mem _ (List.mem_append_right _ h9)) hown hK hP 0 rfl rfl 10 (by decide) (hts (.fieldLink RX0 40 "GlassHarp$Orchestra" "glasses" "I") (List.mem_of_getElem? (i := 1) rfl)) (fun _ h9 => h9) rfl dX0_pairsBeating_6 ?_
      refine gh_vv (y := nI n) (hn) ?_
      refine lv_icmp_ge (tgt := 26) hx hb dX0_pairsBeating_9 (by decide) (fun c_2 => absurd c_2 (nI_ge hi (Nat.lt_of_le_of_lt hn16 (by decide)))) (fun c_2 => ?_)
      refine lv_iload_n hx hb dX0_pairsBeating_12 rfl (lv_at hl 1 rfl) ?_
      refine lv_aload_n hx hb dX0_pairsBeating_13 rfl (lv_at hl 0 rfl) ?_
      refine lv_iload_n hx hb dX0_pairsBeating_14 rfl (lv_at hl 2 rfl) ?_
      refine gh_ci (va_runV (As := [.int (nI i)]) (rest := [.int (gh_sm (fun i => gh_cn (gh_ba o i) n) i)]) ⟨hx, hb, hml, hown, hts⟩ (c_X0_glassesBeatingAgainst l G a sc o n i (hn) (hn16) (hi)) (cwV 1 hts gX0_pairsBeating_X0_glassesBeatingAgainst rfl rfl rfl ⟨rfl, hdS_X0_glassesBeatingAgainst⟩ ⟨Nat.le_of_ble_eq_true rfl, Nat.le_of_ble_eq_true rfl⟩) (gh_rV hE hP (ci := 0) (q0 := 0) rfl rfl) rfl rfl hl.1 rfl (lv_room (Nat.le_of_ble_eq_true rfl)) dX0_pairsBeating_15 ⟨Nat.le_of_ble_eq_true rfl, Nat.le_of_ble_eq_true rfl⟩) ?_
      refine lv_iadd hx hb dX0_pairsBeating_18 ?_
      refine lv_istore_n (lv' := [(1, .int ((gh_sm (fun i => gh_cn (gh_ba o i) n) i) + (gh_cn (gh_ba o i) n))), (0, .ref (a 0)), (2, .int (nI i))]) hx hb dX0_pairsBeating_19 rfl hl (by decide) rfl (fun ls hl => ?_)
      refine lv_iinc (v := nI (i + 1)) (lv' := [(2, .int (nI (i + 1))), (1, .int ((gh_sm (fun i => gh_cn (gh_ba o i) n) i) + (gh_cn (gh_ba o i) n))), (0, .ref (a 0))]) hx hb dX0_pairsBeating_20 hl (k := 2) rfl (nI_1 i) (by decide) rfl (fun ls hl => ?_)
      refine lv_goto (tgt := 4) hx hb dX0_pairsBeating_23 (by decide) ?_
      exact ih ((gh_sm (fun i => gh_cn (gh_ba o i) n) i) + (gh_cn (gh_ba o i) n)) (by first | (simp only [gh_sm, c_2, ↓reduceIte, if_true, if_false]; done) | (simp only [gh_sm]; simp only [c_2, ↓reduceIte, if_true, if_false]; done)) _ (lv_sub hl [2, 1, 0] rfl)
  exact J4 0 (by first | (simp only [gh_sm, ↓reduceIte, if_true, if_false]; done) | (simp only [gh_sm, ↓reduceIte, if_true, if_false]; rfl)) _ (lv_sub hl [2, 1, 0] rfl)
set_option maxHeartbeats 4000000 in
set_option maxRecDepth 100000 in
theorem c_X0_hasAir (l : Launch) (G : gh_G) (a : Nat → Nat) (sc : Nat) (o : gh_B) (r : Int32) (f : Int32)  : Met l yX0_hasAir wsX0_hasAir ({ frames := 1, cells := 0, slots := 0, locals := 22 } : Room) (gh_r G [.ref (a 0), .int r, .int f] (wO G a sc o)) (vp_Si (fun r9 => r9 = gh_ha o r f)) 0 0 (fun _ => False) := by
  refine Met.ofW (cc := cX0_hasAir) (maxL := 3) (ret := (some .boolean)) (by decide) rfl ?_
  intro p e s m args below meth c s₁ B hml hv
  obtain ⟨rfl, hP, hE⟩ := hv
  have hx := B.exec
  have hb := B.bytes
  have hr := B.returns
  have hts := atoms_spec (ws := wsX0_hasAir) B.pre
  have hown : s.vm.findClass RX0 = some m.cls := findClass_of_methodNamed B.named
  have hlocks := B.notSynchronized
  have hK := hE.1
  have hl := lv_entry ([.ref (a 0), .int r, .int f]) (n := 3) (Nat.le_of_ble_eq_true rfl)
  rw [lg_entry_eq]
  generalize (lg_sl ([.ref (a 0), .int r, .int f]) ++ List.replicate (3 - (lg_sl ([.ref (a 0), .int r, .int f])).length) Slot.unset).toArray = ls at hl ⊢
  have hl : lv_has ls 3 [(0, .ref (a 0)), (1, .int r), (2, .int f)] := hl
  refine lv_iload_n hx hb dX0_hasAir_0 rfl (lv_at hl 1 rfl) ?_
  refine lv_iconst (v := 0) hx hb dX0_hasAir_1 (by decide) ?_
  refine lv_iconst (v := 3) hx hb dX0_hasAir_2 (by decide) ?_
  refine gh_ci (va_runSN (As := [.int r, .int 0, .int 3]) (rest := []) ⟨hx, hb, hml, hown, hts⟩ (c_X2_isWithin l G r 0 3) ⟨va_cnB 3 hts gX0_hasAir_X2_isWithin_n60 rfl rfl rfl (hE.2.1 (RX0, 60, yX2_isWithin, RX2) (List.mem_of_getElem? (i := 6) rfl)) (hts (.initialized RX2) (List.mem_of_getElem? (i := 3) rfl)) hdS_X2_isWithin ⟨Nat.le_of_ble_eq_true rfl, Nat.le_of_ble_eq_true rfl⟩, (hts (.static yX2_isWithin) (List.mem_of_getElem? (i := 2) rfl)), trivial⟩ (gh_rS hE (fun k q h => by simp at h)) rfl rfl hl.1 rfl (lv_room (Nat.le_of_ble_eq_true rfl)) dX0_hasAir_3 ⟨Nat.le_of_ble_eq_true rfl, Nat.le_of_ble_eq_true rfl⟩) ?_
  refine lv_if_eq (tgt := 23) hx hb dX0_hasAir_6 (by decide) (fun c_1 => ?_) (fun c_1 => ?_)
  · skip
    refine lv_iconst (v := 0) hx hb dX0_hasAir_23 (by decide) ?_
    exact W.zret (v := 0) hx hb hr (by decide) (fun t9 ht hW => ⟨0, rfl, by first | (simp only [gh_ha, c_1, ↓reduceIte, if_true, if_false]; done) | (simp only [gh_ha]; simp only [c_1, ↓reduceIte, if_true, if_false]; done), ht⟩) (fun q hq => absurd hq List.not_mem_nil) dX0_hasAir_24
  · skip
    refine lv_aload_n hx hb dX0_hasAir_9 rfl (lv_at hl 0 rfl) ?_
    refine va_get (D := G.1) (ci := 0) (v := .ref (a 8)) (C := RX0) (T := TX0) (N := 15) hx hb hts (fun w9 h9 => List.mem_cons_of_mem _ (List.mem_append_right _ h9)) hown hK hP 0 rfl rfl 8 (by decide) (hts (.fieldLink RX0 34 "GlassHarp$Orchestra" "air" "[I") (List.mem_of_getElem? (i := 1) rfl)) (fun _ h9 => h9) rfl dX0_hasAir_10 ?_
    refine lv_iload_n hx hb dX0_hasAir_13 rfl (lv_at hl 1 rfl) ?_
    refine va_iald (f := o 8) hx hb hK hP 8 0 rfl rfl (gh_iw_in c_1) dX0_hasAir_14 ?_
    refine lv_iload_n hx hb dX0_hasAir_15 rfl (lv_at hl 2 rfl) ?_
    refine lv_icmp_lt (tgt := 23) hx hb dX0_hasAir_16 (by decide) (fun c_2 => ?_) (fun c_2 => ?_)
    · skip
      refine lv_iconst (v := 0) hx hb dX0_hasAir_23 (by decide) ?_
      exact W.zret (v := 0) hx hb hr (by decide) (fun t9 ht hW => ⟨0, rfl, by first | (simp only [gh_ha, c_1, c_2, ↓reduceIte, if_true, if_false]; done) | (simp only [gh_ha]; simp only [c_1, c_2, ↓reduceIte, if_true, if_false]; done), ht⟩) (fun q hq => absurd hq List.not_mem_nil) dX0_hasAir_24
    · skip
      refine lv_iconst (v := 1) hx hb dX0_hasAir_19 (by decide) ?_
      refine lv_goto (tgt := 24) hx hb dX0_hasAir_20 (by decide) ?_
      exact W.zret (v := 1) hx hb hr (by decide) (fun t9 ht hW => ⟨1, rfl, by first | (simp only [gh_ha, c_1, c_2, ↓reduceIte, if_true, if_false]; done) | (simp only [gh_ha]; simp only [c_1, c_2, ↓reduceIte, if_true, if_false]; done), ht⟩) (fun q hq => absurd hq List.not_mem_nil) dX0_hasAir_24
set_option maxHeartbeats 4000000 in
set_option maxRecDepth 100000 in
theorem c_X0_playerFor (l : Launch) (G : gh_G) (a : Nat → Nat) (sc : Nat) (o : gh_B) (n : Nat) (t : Int32) (f : Int32) (hn : o 10 0 = nI n) (hn16 : n ≤ 16) : Met l yX0_playerFor wsX0_playerFor ({ frames := 2, cells := 0, slots := 0, locals := 44 } : Room) (gh_r G [.ref (a 0), .int t, .int f] (wO G a sc o)) (vp_Si (fun r9 => r9 = (gh_pf o t f n).1)) 0 0 (fun _ => False) := by
  refine Met.ofW (cc := cX0_playerFor) (maxL := 7) (ret := (some .int)) (by decide) rfl ?_
  intro p e s m args below meth c s₁ B hml hv
  obtain ⟨rfl, hP, hE⟩ := hv
  have hx := B.exec
  have hb := B.bytes
  have hr := B.returns
  have hts := atoms_spec (ws := wsX0_playerFor) B.pre
  have hown : s.vm.findClass RX0 = some m.cls := findClass_of_methodNamed B.named
  have hlocks := B.notSynchronized
  have hK := hE.1
  have hl := lv_entry ([.ref (a 0), .int t, .int f]) (n := 7) (Nat.le_of_ble_eq_true rfl)
  rw [lg_entry_eq]
  generalize (lg_sl ([.ref (a 0), .int t, .int f]) ++ List.replicate (7 - (lg_sl ([.ref (a 0), .int t, .int f])).length) Slot.unset).toArray = ls at hl ⊢
  have hl : lv_has ls 7 [(0, .ref (a 0)), (1, .int t), (2, .int f)] := hl
  refine lv_iconst (v := (-1)) hx hb dX0_playerFor_0 (by decide) ?_
  refine lv_istore_n (lv' := [(3, .int (-1)), (0, .ref (a 0)), (1, .int t), (2, .int f)]) hx hb dX0_playerFor_1 rfl hl (by decide) rfl (fun ls hl => ?_)
  refine lv_bipush (v := 7) hx hb dX0_playerFor_2 (by decide) ?_
  refine lv_istore (lv' := [(4, .int 7), (3, .int (-1)), (0, .ref (a 0)), (1, .int t), (2, .int f)]) hx hb dX0_playerFor_4 hl (by decide) rfl (fun ls hl => ?_)
  refine lv_iconst (v := 0) hx hb dX0_playerFor_6 (by decide) ?_
  refine lv_istore (lv' := [(5, .int 0), (4, .int 7), (3, .int (-1)), (0, .ref (a 0)), (1, .int t), (2, .int f)]) hx hb dX0_playerFor_7 hl (by decide) rfl (fun ls hl => ?_)
  have J9 : ∀ (x3 : Int32) (x4 : Int32), x3 = (gh_pf o t f 0).1 → x4 = (gh_pf o t f 0).2 → ∀ (ls : Array Slot), lv_has ls 7 [(0, .ref (a 0)), (1, .int t), (2, .int f), (3, .int x3), (4, .int x4), (5, .int (nI 0))] → W p l e (headSpec wsX0_playerFor ({ frames := 2, cells := 0, slots := 0, locals := 44 } : Room)).room s m ([.ref (a 0), .int t, .int f] : List Value).toArray below meth c s.heap [] 0 0 (MQ below (vp_Si (fun r9 => r9 = (gh_pf o t f n).1)) ([.ref (a 0), .int t, .int f] : List Value).toArray s 0 0 (fun _ => False)) (F0 m 9 ls []) := by
    refine gh_loop (n := n) (i0 := 0) (Nat.zero_le _) (P := fun i => ∀ (x3 : Int32) (x4 : Int32), x3 = (gh_pf o t f i).1 → x4 = (gh_pf o t f i).2 → ∀ (ls : Array Slot), lv_has ls 7 [(0, .ref (a 0)), (1, .int t), (2, .int f), (3, .int x3), (4, .int x4), (5, .int (nI i))] → W p l e (headSpec wsX0_playerFor ({ frames := 2, cells := 0, slots := 0, locals := 44 } : Room)).room s m ([.ref (a 0), .int t, .int f] : List Value).toArray below meth c s.heap [] 0 0 (MQ below (vp_Si (fun r9 => r9 = (gh_pf o t f n).1)) ([.ref (a 0), .int t, .int f] : List Value).toArray s 0 0 (fun _ => False)) (F0 m 9 ls [])) ?_ ?_
    · skip
      intro x3 x4 e3 e4 ls hl
      subst e3
      subst e4
      refine lv_iload hx hb dX0_playerFor_9 (lv_at hl 5 rfl) ?_
      refine lv_aload_n hx hb dX0_playerFor_11 rfl (lv_at hl 0 rfl) ?_
      refine va_get (D := G.1) (ci := 0) (v := .int (o 10 0)) (C := RX0) (T := TX0) (N := 15) hx hb hts (fun w9 h9 => List.mem_cons_of_mem _ (List.mem_append_right _ h9)) hown hK hP 0 rfl rfl 10 (by decide) (hts (.fieldLink RX0 40 "GlassHarp$Orchestra" "glasses" "I") (List.mem_of_getElem? (i := 1) rfl)) (fun _ h9 => h9) rfl dX0_playerFor_12 ?_
      refine gh_vv (y := nI n) (hn) ?_
      refine lv_icmp_ge (tgt := 85) hx hb dX0_playerFor_15 (by decide) (fun c_1 => ?_) (fun c_1 => absurd (nI_le (Nat.le_refl _) (Nat.lt_of_le_of_lt hn16 (by decide))) c_1)
      refine lv_iload_n hx hb dX0_playerFor_85 rfl (lv_at hl 3 rfl) ?_
      exact W.iret (v := (gh_pf o t f n).1) hx hb hr (fun t9 ht hW => ⟨(gh_pf o t f n).1, rfl, rfl, ht⟩) (fun q hq => absurd hq List.not_mem_nil) dX0_playerFor_86
    · intro i hi_lo hi ih
      intro x3 x4 e3 e4 ls hl
      subst e3
      subst e4
      refine lv_iload hx hb dX0_playerFor_9 (lv_at hl 5 rfl) ?_
      refine lv_aload_n hx hb dX0_playerFor_11 rfl (lv_at hl 0 rfl) ?_
      refine va_get (D := G.1) (ci := 0) (v := .int (o 10 0)) (C := RX0) (T := TX0) (N := 15) hx hb hts (fun w9 h9 => List.mem_cons_of_mem _ (List.mem_append_right _ h9)) hown hK hP 0 rfl rfl 10 (by decide) (hts (.fieldLink RX0 40 "GlassHarp$Orchestra" "glasses" "I") (List.mem_of_getElem? (i := 1) rfl)) (fun _ h9 => h9) rfl dX0_playerFor_12 ?_
      refine gh_vv (y := nI n) (hn) ?_
      refine lv_icmp_ge (tgt := 85) hx hb dX0_playerFor_15 (by decide) (fun c_2 => absurd c_2 (nI_ge hi (Nat.lt_of_le_of_lt hn16 (by decide)))) (fun c_2 => ?_)
      refine lv_aload_n hx hb dX0_playerFor_18 rfl (lv_at hl 0 rfl) ?_
      refine va_get (D := G.1) (ci := 0) (v := .ref (a 4)) (C := RX0) (T := TX0) (N := 15) hx hb hts (fun w9 h9 => List.mem_cons_of_mem _ (List.mem_append_right _ h9)) hown hK hP 0 rfl rfl 4 (by decide) (hts (.fieldLink RX0 21 "GlassHarp$Orchestra" "cracked" "[Z") (List.mem_of_getElem? (i := 2) rfl)) (fun _ h9 => h9) rfl dX0_playerFor_19 ?_
      refine lv_iload hx hb dX0_playerFor_22 (lv_at hl 5 rfl) ?_
      refine gh_za (f := o 4) hx hb hK hP 4 1 rfl rfl i (rfl) (by omega) (by decide) dX0_playerFor_24 ?_
      refine lv_if_ne (tgt := 79) hx hb dX0_playerFor_25 (by decide) (fun c_3 => ?_) (fun c_3 => ?_)
      · skip
        refine lv_iinc (v := nI (i + 1)) (lv' := [(5, .int (nI (i + 1))), (0, .ref (a 0)), (1, .int t), (2, .int f), (3, .int ((gh_pf o t f i).1)), (4, .int ((gh_pf o t f i).2))]) hx hb dX0_playerFor_79 hl (k := 5) rfl (nI_1 i) (by decide) rfl (fun ls hl => ?_)
        refine lv_goto (tgt := 9) hx hb dX0_playerFor_82 (by decide) ?_
        exact ih ((gh_pf o t f i).1) ((gh_pf o t f i).2) (by first | (simp only [gh_pf, c_2, c_3, ↓reduceIte, if_true, if_false]; done) | (simp only [gh_pf]; simp only [c_2, c_3, ↓reduceIte, if_true, if_false]; done)) (by first | (simp only [gh_pf, c_2, c_3, ↓reduceIte, if_true, if_false]; done) | (simp only [gh_pf]; simp only [c_2, c_3, ↓reduceIte, if_true, if_false]; done)) _ (lv_sub hl [1, 2, 3, 4, 5, 0] rfl)
      · skip
        refine lv_aload_n hx hb dX0_playerFor_28 rfl (lv_at hl 0 rfl) ?_
        refine va_get (D := G.1) (ci := 0) (v := .ref (a 7)) (C := RX0) (T := TX0) (N := 15) hx hb hts (fun w9 h9 => List.mem_cons_of_mem _ (List.mem_append_right _ h9)) hown hK hP 0 rfl rfl 7 (by decide) (hts (.fieldLink RX0 31 "GlassHarp$Orchestra" "busy" "[Z") (List.mem_of_getElem? (i := 3) rfl)) (fun _ h9 => h9) rfl dX0_playerFor_29 ?_
        refine lv_iload hx hb dX0_playerFor_32 (lv_at hl 5 rfl) ?_
        refine gh_za (f := o 7) hx hb hK hP 7 1 rfl rfl i (rfl) (by omega) (by decide) dX0_playerFor_34 ?_
        refine lv_if_ne (tgt := 79) hx hb dX0_playerFor_35 (by decide) (fun c_4 => ?_) (fun c_4 => ?_)
        · skip
          refine lv_iinc (v := nI (i + 1)) (lv' := [(5, .int (nI (i + 1))), (0, .ref (a 0)), (1, .int t), (2, .int f), (3, .int ((gh_pf o t f i).1)), (4, .int ((gh_pf o t f i).2))]) hx hb dX0_playerFor_79 hl (k := 5) rfl (nI_1 i) (by decide) rfl (fun ls hl => ?_)
          refine lv_goto (tgt := 9) hx hb dX0_playerFor_82 (by decide) ?_
          exact ih ((gh_pf o t f i).1) ((gh_pf o t f i).2) (by first | (simp only [gh_pf, c_2, c_3, c_4, ↓reduceIte, if_true, if_false]; done) | (simp only [gh_pf]; simp only [c_2, c_3, c_4, ↓reduceIte, if_true, if_false]; done)) (by first | (simp only [gh_pf, c_2, c_3, c_4, ↓reduceIte, if_true, if_false]; done) | (simp only [gh_pf]; simp only [c_2, c_3, c_4, ↓reduceIte, if_true, if_false]; done)) _ (lv_sub hl [1, 2, 3, 4, 5, 0] rfl)
        · skip
          refine lv_aload_n hx hb dX0_playerFor_38 rfl (lv_at hl 0 rfl) ?_
          refine lv_aload_n hx hb dX0_playerFor_39 rfl (lv_at hl 0 rfl) ?_
          refine va_get (D := G.1) (ci := 0) (v := .ref (a 1)) (C := RX0) (T := TX0) (N := 15) hx hb hts (fun w9 h9 => List.mem_cons_of_mem _ (List.mem_append_right _ h9)) hown hK hP 0 rfl rfl 1 (by decide) (hts (.fieldLink RX0 9 "GlassHarp$Orchestra" "rows" "[I") (List.mem_of_getElem? (i := 4) rfl)) (fun _ h9 => h9) rfl dX0_playerFor_40 ?_
          refine lv_iload hx hb dX0_playerFor_43 (lv_at hl 5 rfl) ?_
          refine gh_ia (f := o 1) hx hb hK hP 1 0 rfl rfl i (rfl) (by omega) (by decide) dX0_playerFor_45 ?_
          refine lv_iload_n hx hb dX0_playerFor_46 rfl (lv_at hl 2 rfl) ?_
          refine gh_ci (va_runV (As := [.int (o 1 i), .int f]) (rest := []) ⟨hx, hb, hml, hown, hts⟩ (c_X0_hasAir l G a sc o (o 1 i) f) (cwV 2 hts gX0_playerFor_X0_hasAir rfl rfl rfl ⟨rfl, hdS_X0_hasAir⟩ ⟨Nat.le_of_ble_eq_true rfl, Nat.le_of_ble_eq_true rfl⟩) (gh_rV hE hP (ci := 0) (q0 := 0) rfl rfl) rfl rfl hl.1 rfl (lv_room (Nat.le_of_ble_eq_true rfl)) dX0_playerFor_47 ⟨Nat.le_of_ble_eq_true rfl, Nat.le_of_ble_eq_true rfl⟩) ?_
          refine lv_if_eq (tgt := 79) hx hb dX0_playerFor_50 (by decide) (fun c_5 => ?_) (fun c_5 => ?_)
          · skip
            refine lv_iinc (v := nI (i + 1)) (lv' := [(5, .int (nI (i + 1))), (0, .ref (a 0)), (1, .int t), (2, .int f), (3, .int ((gh_pf o t f i).1)), (4, .int ((gh_pf o t f i).2))]) hx hb dX0_playerFor_79 hl (k := 5) rfl (nI_1 i) (by decide) rfl (fun ls hl => ?_)
            refine lv_goto (tgt := 9) hx hb dX0_playerFor_82 (by decide) ?_
            exact ih ((gh_pf o t f i).1) ((gh_pf o t f i).2) (by first | (simp only [gh_pf, c_2, c_3, c_4, c_5, ↓reduceIte, if_true, if_false]; done) | (simp only [gh_pf]; simp only [c_2, c_3, c_4, c_5, ↓reduceIte, if_true, if_false]; done)) (by first | (simp only [gh_pf, c_2, c_3, c_4, c_5, ↓reduceIte, if_true, if_false]; done) | (simp only [gh_pf]; simp only [c_2, c_3, c_4, c_5, ↓reduceIte, if_true, if_false]; done)) _ (lv_sub hl [1, 2, 3, 4, 5, 0] rfl)
          · skip
            refine lv_aload_n hx hb dX0_playerFor_53 rfl (lv_at hl 0 rfl) ?_
            refine lv_iload hx hb dX0_playerFor_54 (lv_at hl 5 rfl) ?_
            refine gh_ci (va_runV (As := [.int (nI i)]) (rest := []) ⟨hx, hb, hml, hown, hts⟩ (c_X0_toneOf l G a sc o n i (hn) (hn16) (hi)) (cwV 1 hts gX0_playerFor_X0_toneOf rfl rfl rfl ⟨rfl, hdS_X0_toneOf⟩ ⟨Nat.le_of_ble_eq_true rfl, Nat.le_of_ble_eq_true rfl⟩) (gh_rV hE hP (ci := 0) (q0 := 0) rfl rfl) rfl rfl hl.1 rfl (lv_room (Nat.le_of_ble_eq_true rfl)) dX0_playerFor_56 ⟨Nat.le_of_ble_eq_true rfl, Nat.le_of_ble_eq_true rfl⟩) ?_
            refine lv_iload_n hx hb dX0_playerFor_59 rfl (lv_at hl 1 rfl) ?_
            refine gh_ci (va_runSN (As := [.int (gh_tn o i), .int t]) (rest := []) ⟨hx, hb, hml, hown, hts⟩ (c_X2_distance l G (gh_tn o i) t) ⟨va_cnB 2 hts gX0_playerFor_X2_distance_n94 rfl rfl rfl (hE.2.1 (RX0, 94, yX2_distance, RX2) (List.mem_of_getElem? (i := 5) rfl)) (hts (.initialized RX2) (List.mem_of_getElem? (i := 12) rfl)) hdS_X2_distance ⟨Nat.le_of_ble_eq_true rfl, Nat.le_of_ble_eq_true rfl⟩, (hts (.static yX2_distance) (List.mem_of_getElem? (i := 34) rfl)), trivial⟩ (gh_rS hE (fun k q h => by simp at h)) rfl rfl hl.1 rfl (lv_room (Nat.le_of_ble_eq_true rfl)) dX0_playerFor_60 ⟨Nat.le_of_ble_eq_true rfl, Nat.le_of_ble_eq_true rfl⟩) ?_
            refine lv_istore (lv' := [(6, .int (gh_ds (gh_tn o i) t)), (0, .ref (a 0)), (1, .int t), (2, .int f), (3, .int ((gh_pf o t f i).1)), (4, .int ((gh_pf o t f i).2)), (5, .int (nI i))]) hx hb dX0_playerFor_63 hl (by decide) rfl (fun ls hl => ?_)
            refine lv_iload hx hb dX0_playerFor_65 (lv_at hl 0 rfl) ?_
            refine lv_iload hx hb dX0_playerFor_67 (lv_at hl 5 rfl) ?_
            refine lv_icmp_ge (tgt := 79) hx hb dX0_playerFor_69 (by decide) (fun c_6 => ?_) (fun c_6 => ?_)
            · skip
              refine lv_iinc (v := nI (i + 1)) (lv' := [(5, .int (nI (i + 1))), (6, .int (gh_ds (gh_tn o i) t)), (0, .ref (a 0)), (1, .int t), (2, .int f), (3, .int ((gh_pf o t f i).1)), (4, .int ((gh_pf o t f i).2))]) hx hb dX0_playerFor_79 hl (k := 6) rfl (nI_1 i) (by decide) rfl (fun ls hl => ?_)
              refine lv_goto (tgt := 9) hx hb dX0_playerFor_82 (by decide) ?_
              exact ih ((gh_pf o t f i).1) ((gh_pf o t f i).2) (by first | (simp only [gh_pf, c_2, c_3, c_4, c_5, c_6, ↓reduceIte, if_true, if_false]; done) | (simp only [gh_pf]; simp only [c_2, c_3, c_4, c_5, c_6, ↓reduceIte, if_true, if_false]; done)) (by first | (simp only [gh_pf, c_2, c_3, c_4, c_5, c_6, ↓reduceIte, if_true, if_false]; done) | (simp only [gh_pf]; simp only [c_2, c_3, c_4, c_5, c_6, ↓reduceIte, if_true, if_false]; done)) _ (lv_sub hl [2, 3, 4, 5, 6, 0] rfl)
            · skip
              refine lv_iload hx hb dX0_playerFor_72 (lv_at hl 0 rfl) ?_
              refine lv_istore (lv' := [(4, .int (gh_ds (gh_tn o i) t)), (6, .int (gh_ds (gh_tn o i) t)), (0, .ref (a 0)), (1, .int t), (2, .int f), (3, .int ((gh_pf o t f i).1)), (5, .int (nI i))]) hx hb dX0_playerFor_74 hl (by decide) rfl (fun ls hl => ?_)
              refine lv_iload hx hb dX0_playerFor_76 (lv_at hl 6 rfl) ?_
              refine lv_istore_n (lv' := [(3, .int (nI i)), (4, .int (gh_ds (gh_tn o i) t)), (6, .int (gh_ds (gh_tn o i) t)), (0, .ref (a 0)), (1, .int t), (2, .int f), (5, .int (nI i))]) hx hb dX0_playerFor_78 rfl hl (by decide) rfl (fun ls hl => ?_)
              refine lv_iinc (v := nI (i + 1)) (lv' := [(5, .int (nI (i + 1))), (3, .int (nI i)), (4, .int (gh_ds (gh_tn o i) t)), (6, .int (gh_ds (gh_tn o i) t)), (0, .ref (a 0)), (1, .int t), (2, .int f)]) hx hb dX0_playerFor_79 hl (k := 6) rfl (nI_1 i) (by decide) rfl (fun ls hl => ?_)
              refine lv_goto (tgt := 9) hx hb dX0_playerFor_82 (by decide) ?_
              exact ih (nI i) (gh_ds (gh_tn o i) t) (by first | (simp only [gh_pf, c_2, c_3, c_4, c_5, c_6, ↓reduceIte, if_true, if_false]; done) | (simp only [gh_pf]; simp only [c_2, c_3, c_4, c_5, c_6, ↓reduceIte, if_true, if_false]; done)) (by first | (simp only [gh_pf, c_2, c_3, c_4, c_5, c_6, ↓reduceIte, if_true, if_false]; done) | (simp only [gh_pf]; simp only [c_2, c_3, c_4, c_5, c_6, ↓reduceIte, if_true, if_false]; done)) _ (lv_sub hl [4, 5, 6, 1, 2, 0] rfl)
  exact J9 (-1) 7 (by first | (simp only [gh_pf, ↓reduceIte, if_true, if_false]; done) | (simp only [gh_pf, ↓reduceIte, if_true, if_false]; rfl)) (by first | (simp only [gh_pf, ↓reduceIte, if_true, if_false]; done) | (simp only [gh_pf, ↓reduceIte, if_true, if_false]; rfl)) _ (lv_sub hl [3, 4, 5, 2, 1, 0] rfl)
end
section
/-! what the methods that write do to a state -/
def gh_mn (x : Int32) : Int32 := if x < 60 then x else 60
def gh_m0 (x : Int32) : Int32 := if 0 < x then x else 0
def gh_fb (o : gh_B) : Nat → gh_B
  | 0 => o
  | i + 1 => gh_st (gh_fb o i) 8 (upd (gh_fb o i 8) i (gh_mn (gh_fb o i 8 i + gh_fb o i 9 i)))
def gh_r1 (o : gh_B) (k : Nat) (t : Int32) : gh_B := if 1 < gh_ds (gh_tn (gh_st o 12 (fun _ => o 12 0 + 1)) k) t then gh_st o 12 (fun _ => o 12 0 + 1) else gh_st (gh_st o 12 (fun _ => o 12 0 + 1)) 13 (fun _ => o 13 0 + 1)
def gh_r2 (o : gh_B) (k : Nat) (f : Int32) : gh_B := if gh_ha o (o 1 k) f = 0 then o else gh_st o 8 (upd (o 8) (o 1 k).toNatClampNeg (o 8 (o 1 k).toNatClampNeg - f))
def gh_r3 (o : gh_B) (k : Nat) (f : Int32) : gh_B := gh_st (gh_st (gh_st (gh_st o 7 (upd (o 7) k 1)) 6 (upd (o 6) k (o 6 k + 1))) 5 (upd (o 5) k 9)) 3 (upd (o 3) k (gh_m0 (o 3 k - f)))
def gh_r4 (o : gh_B) (k : Nat) (f : Int32) : gh_B := if f ≤ o 2 k + 3 then gh_r3 o k f else gh_st (gh_st (gh_st (gh_r3 o k f) 4 (upd (o 4) k 1)) 3 (upd (upd (o 3) k (gh_m0 (o 3 k - f))) k 0)) 5 (upd (upd (o 5) k 9) k 0)
def gh_rub (o : gh_B) (k : Nat) (t f : Int32) : gh_B := gh_r4 (gh_r2 (gh_r1 o k t) k f) k f
def gh_nb (o : gh_B) : Nat → gh_B
  | 0 => o
  | i + 1 => gh_st (gh_nb o i) 7 (upd (gh_nb o i 7) i 0)
/-- the place in the score -/
def gh_at (z : gh_B) (x : Int32) : Int32 := if z 4 0 ≤ 0 then 0 else x - x / z 4 0 * z 4 0
def gh_nt (z o : gh_B) (n i : Nat) : gh_B := if gh_rg (gh_pf o (z 1 i) (z 2 i) n).1 (o 10 0) = 0 then gh_st o 14 (fun _ => o 14 0 + 1) else gh_rub o (gh_pf o (z 1 i) (z 2 i) n).1.toNatClampNeg (z 1 i) (z 2 i)
def gh_ns (z o : gh_B) (n : Nat) (p : Int32) : Nat → gh_B
  | 0 => o
  | i + 1 => if z 0 i = p then gh_nt z (gh_ns z o n p i) n i else gh_ns z o n p i
def gh_pn (z o : gh_B) (n nn : Nat) : gh_B := gh_ns z (gh_nb o n) n (gh_at z (gh_nb o n 11 0)) nn
def gh_dr (x : Int32) : Int32 := if x - x / 8 * 8 = 0 then 1 else 0
def gh_f1 (o : gh_B) (i : Nat) : gh_B := if o 7 i = 0 then gh_st o 5 (upd (o 5) i (gh_m0 (o 5 i - 1))) else o
def gh_f2 (o : gh_B) (d : Int32) (i : Nat) : gh_B := if d = 0 then o else gh_st o 3 (upd (o 3) i (gh_m0 (o 3 i - 1)))
def gh_fd (d : Int32) (o : gh_B) : Nat → gh_B
  | 0 => o
  | i + 1 => gh_f2 (gh_f1 (gh_fd d o i) i) d i
def gh_be (o : gh_B) : gh_B := gh_st o 11 (fun _ => o 11 0 + 1)
/-- one beat -/
def gh_bt (z o : gh_B) (n nn : Nat) : gh_B := gh_be (gh_fd (gh_dr (gh_pn z (gh_fb o 4) n nn 11 0)) (gh_pn z (gh_fb o 4) n nn) n)
def gh_go (z o : gh_B) (n nn : Nat) : Nat → gh_B
  | 0 => o
  | i + 1 => gh_bt z (gh_go z o n nn i) n nn
def gh_tk (q o : gh_B) : Nat → gh_B
  | 0 => o
  | i + 1 => gh_st (gh_st (gh_st (gh_st (gh_st (gh_st (gh_tk q o i) 1 (upd (gh_tk q o i 1) i (q 1 i))) 2 (upd (gh_tk q o i 2) i (q 2 i))) 3 (upd (gh_tk q o i 3) i (q 3 i))) 4 (upd (gh_tk q o i 4) i (vp_nar .boolean (q 4 i)))) 5 (upd (gh_tk q o i 5) i (q 5 i))) 6 (upd (gh_tk q o i 6) i (q 6 i))
def gh_ta (q o : gh_B) : Nat → gh_B
  | 0 => o
  | i + 1 => gh_st (gh_st (gh_ta q o i) 8 (upd (gh_ta q o i 8) i (q 8 i))) 9 (upd (gh_ta q o i 9) i (q 9 i))
def gh_tc (q o : gh_B) : gh_B := gh_st (gh_st (gh_st (gh_st (gh_st o 10 (fun _ => q 10 0)) 11 (fun _ => q 11 0)) 12 (fun _ => q 12 0)) 13 (fun _ => q 13 0)) 14 (fun _ => q 14 0)
def gh_to (q o : gh_B) (n : Nat) : gh_B := gh_tc q (gh_ta q (gh_tk q o n) 4)
def gh_ad (o : gh_B) (n : Nat) (r s d : Int32) : gh_B := if nI n < 16 then gh_st (gh_st (gh_st (gh_st o 1 (upd (o 1) n r)) 2 (upd (o 2) n s)) 3 (upd (o 3) n d)) 10 (fun _ => nI (n + 1)) else o
def gh_tu (o : gh_B) (k : Nat) (t : Int32) : gh_B := if gh_cb o k t = 0 then o else gh_st o 3 (upd (o 3) k (gh_fw o k t))
def gh_sp (o : gh_B) (r v : Int32) : gh_B := if gh_iw r 0 3 = 0 then o else gh_st o 9 (upd (o 9) r.toNatClampNeg v)
def gh_wr (z : gh_B) (nn : Nat) (b t f : Int32) : gh_B := if nI nn < 32 then gh_st (gh_st (gh_st (gh_st z 0 (upd (z 0) nn b)) 1 (upd (z 1) nn t)) 2 (upd (z 2) nn f)) 3 (fun _ => nI (nn + 1)) else z
def gh_mv (z : gh_B) (i : Nat) : gh_B := gh_st (gh_st (gh_st z 0 (upd (z 0) i (z 0 (i + 1)))) 1 (upd (z 1) i (z 1 (i + 1)))) 2 (upd (z 2) i (z 2 (i + 1)))
def gh_sh (z : gh_B) (k : Nat) : Nat → gh_B
  | 0 => z
  | i + 1 => if i < k then z else gh_mv (gh_sh z k i) i
theorem gh_sh_k (z : gh_B) (k : Nat) : gh_sh z k k = z := by
  cases k with
  | zero => rfl
  | succ k => rw [gh_sh, if_pos (Nat.lt_succ_self k)]
theorem gh_sh_s (z : gh_B) {k i : Nat} (h : k ≤ i) : gh_sh z k (i + 1) = gh_mv (gh_sh z k i) i := by rw [gh_sh, if_neg (Nat.not_lt.mpr h)]
theorem gh_lt_n {n m : Nat} {x : Int32} (h : nI n < x) (hx : x = nI m) (hn : n < 2 ^ 31) (hm : m < 2 ^ 31) : n < m := by
  rw [hx] at h; exact (nI_ltI hn hm).mp h
theorem gh_ns_p {z o B : gh_B} {n i k : Nat} {p : Int32} (EB : B = gh_ns z o n p i) (h1 : z 0 i = p) (h2 : ¬ gh_rg (gh_pf B (z 1 i) (z 2 i) n).1 (B 10 0) = 0) (hk : (gh_pf B (z 1 i) (z 2 i) n).1 = nI k) (hk2 : k < 2 ^ 31) : gh_rub B k (z 1 i) (z 2 i) = gh_ns z o n p (i + 1) := by
  rw [gh_ns, if_pos h1, ← EB, gh_nt, if_neg h2, hk, nI_clamp hk2]
theorem gh_ha_in {o : gh_B} {r f : Int32} (h : ¬ gh_ha o r f = 0) : vp_in r 4 := by
  refine gh_iw_in (fun q => h ?_)
  rw [gh_ha, if_pos q]
theorem gh_fb_10 (o : gh_B) : ∀ i, gh_fb o i 10 = o 10
  | 0 => rfl
  | i + 1 => (gh_sn _ _ (by decide)).trans (gh_fb_10 o i)
theorem gh_r1_10 (o : gh_B) (k : Nat) (t : Int32) : gh_r1 o k t 10 = o 10 := by unfold gh_r1; split <;> rfl
theorem gh_r2_10 (o : gh_B) (k : Nat) (f : Int32) : gh_r2 o k f 10 = o 10 := by unfold gh_r2; split <;> rfl
theorem gh_r3_10 (o : gh_B) (k : Nat) (f : Int32) : gh_r3 o k f 10 = o 10 := rfl
theorem gh_r4_10 (o : gh_B) (k : Nat) (f : Int32) : gh_r4 o k f 10 = o 10 := by unfold gh_r4; split <;> rfl
theorem gh_rub_10 (o : gh_B) (k : Nat) (t f : Int32) : gh_rub o k t f 10 = o 10 := by
  rw [gh_rub, gh_r4_10, gh_r2_10, gh_r1_10]
theorem gh_nb_10 (o : gh_B) : ∀ i, gh_nb o i 10 = o 10
  | 0 => rfl
  | i + 1 => (gh_sn _ _ (by decide)).trans (gh_nb_10 o i)
theorem gh_nt_10 (z o : gh_B) (n i : Nat) : gh_nt z o n i 10 = o 10 := by
  unfold gh_nt; split
  · rfl
  · exact gh_rub_10 _ _ _ _
theorem gh_ns_10 (z o : gh_B) (n : Nat) (p : Int32) : ∀ i, gh_ns z o n p i 10 = o 10
  | 0 => rfl
  | i + 1 => by
    rw [gh_ns]; split
    · rw [gh_nt_10]; exact gh_ns_10 z o n p i
    · exact gh_ns_10 z o n p i
theorem gh_pn_10 (z o : gh_B) (n nn : Nat) : gh_pn z o n nn 10 = o 10 := by rw [gh_pn, gh_ns_10, gh_nb_10]
theorem gh_f1_10 (o : gh_B) (i : Nat) : gh_f1 o i 10 = o 10 := by unfold gh_f1; split <;> rfl
theorem gh_f2_10 (o : gh_B) (d : Int32) (i : Nat) : gh_f2 o d i 10 = o 10 := by unfold gh_f2; split <;> rfl
theorem gh_fd_10 (d : Int32) (o : gh_B) : ∀ i, gh_fd d o i 10 = o 10
  | 0 => rfl
  | i + 1 => by rw [gh_fd, gh_f2_10, gh_f1_10]; exact gh_fd_10 d o i
theorem gh_be_10 (o : gh_B) : gh_be o 10 = o 10 := rfl
theorem gh_bt_10 (z o : gh_B) (n nn : Nat) : gh_bt z o n nn 10 = o 10 := by rw [gh_bt, gh_be_10, gh_fd_10, gh_pn_10, gh_fb_10]
theorem gh_go_10 (z o : gh_B) (n nn : Nat) : ∀ i, gh_go z o n nn i 10 = o 10
  | 0 => rfl
  | i + 1 => by rw [gh_go, gh_bt_10]; exact gh_go_10 z o n nn i
end
section
set_option maxHeartbeats 4000000 in
set_option maxRecDepth 100000 in
theorem c_X1_beatAt (l : Launch) (G : gh_G) (b : Nat → Nat) (z : gh_B) (x : Int32)  : Met l yX1_beatAt wsX1_beatAt ({ frames := 0, cells := 0, slots := 0, locals := 0 } : Room) (gh_r G [.ref (b 5), .int x] (wS G b z)) (vp_Si (fun r9 => r9 = gh_at z x)) 0 0 (fun _ => False) := by
  refine Met.ofW (cc := cX1_beatAt) (maxL := 2) (ret := (some .int)) (by decide) rfl ?_
  intro p e s m args below meth c s₁ B hml hv
  obtain ⟨rfl, hP, hE⟩ := hv
  have hx := B.exec
  have hb := B.bytes
  have hr := B.returns
  have hts := atoms_spec (ws := wsX1_beatAt) B.pre
  have hown : s.vm.findClass RX1 = some m.cls := findClass_of_methodNamed B.named
  have hlocks := B.notSynchronized
  have hK := hE.1
  have hl := lv_entry ([.ref (b 5), .int x]) (n := 2) (Nat.le_of_ble_eq_true rfl)
  rw [lg_entry_eq]
  generalize (lg_sl ([.ref (b 5), .int x]) ++ List.replicate (2 - (lg_sl ([.ref (b 5), .int x])).length) Slot.unset).toArray = ls at hl ⊢
  have hl : lv_has ls 2 [(0, .ref (b 5)), (1, .int x)] := hl
  refine lv_aload_n hx hb dX1_beatAt_0 rfl (lv_at hl 0 rfl) ?_
  refine va_get (D := G.1) (ci := 1) (v := .int (z 4 0)) (C := RX1) (T := TX1) (N := 5) hx hb hts (fun w9 h9 => List.mem_cons_of_mem _ (List.mem_append_right _ h9)) hown hK hP 0 rfl rfl 4 (by decide) (hts (.fieldLink RX1 25 "GlassHarp$Score" "length" "I") (List.mem_of_getElem? (i := 1) rfl)) (fun _ h9 => h9) rfl dX1_beatAt_1 ?_
  refine lv_if_le (tgt := 16) hx hb dX1_beatAt_4 (by decide) (fun c_1 => ?_) (fun c_1 => ?_)
  · skip
    refine lv_iconst (v := 0) hx hb dX1_beatAt_16 (by decide) ?_
    exact W.iret (v := 0) hx hb hr (fun t9 ht hW => ⟨0, rfl, by first | (simp only [gh_at, c_1, ↓reduceIte, if_true, if_false]; done) | (simp only [gh_at]; simp only [c_1, ↓reduceIte, if_true, if_false]; done), ht⟩) (fun q hq => absurd hq List.not_mem_nil) dX1_beatAt_17
  · skip
    refine lv_iload_n hx hb dX1_beatAt_7 rfl (lv_at hl 1 rfl) ?_
    refine lv_aload_n hx hb dX1_beatAt_8 rfl (lv_at hl 0 rfl) ?_
    refine va_get (D := G.1) (ci := 1) (v := .int (z 4 0)) (C := RX1) (T := TX1) (N := 5) hx hb hts (fun w9 h9 => List.mem_cons_of_mem _ (List.mem_append_right _ h9)) hown hK hP 0 rfl rfl 4 (by decide) (hts (.fieldLink RX1 25 "GlassHarp$Score" "length" "I") (List.mem_of_getElem? (i := 1) rfl)) (fun _ h9 => h9) rfl dX1_beatAt_9 ?_
    refine lv_irem hx hb dX1_beatAt_12 (fun h9 => c_1 (by rw [h9]; decide)) ?_
    refine lv_goto (tgt := 17) hx hb dX1_beatAt_13 (by decide) ?_
    exact W.iret (v := x - x / (z 4 0) * (z 4 0)) hx hb hr (fun t9 ht hW => ⟨x - x / (z 4 0) * (z 4 0), rfl, by first | (simp only [gh_at, c_1, ↓reduceIte, if_true, if_false]; done) | (simp only [gh_at]; simp only [c_1, ↓reduceIte, if_true, if_false]; done), ht⟩) (fun q hq => absurd hq List.not_mem_nil) dX1_beatAt_17
set_option maxHeartbeats 4000000 in
set_option maxRecDepth 100000 in
theorem c_X1_write (l : Launch) (G : gh_G) (sz : Nat) (b : Nat → Nat) (z : gh_B) (nn : Nat) (x : Int32) (t : Int32) (f : Int32) (hz : z 3 0 = nI nn) (hz32 : nn ≤ 32) : Met l yX1_write wsX1_write ({ frames := 0, cells := 0, slots := 0, locals := 0 } : Room) (gh_w G [.ref (b 5), .int x, .int t, .int f] (wS G b z) sz) (va_Qi (fun (r9 : Int32) (_ : Unit) => r9 = if nI nn < 32 then 1 else 0) (fun _ t9 => va_P G.1 vwCl (wS G b (gh_wr z nn x t f)) t9.heap) (va_A (wS G b z) sz)) 0 0 (va_A (wS G b z) sz) := by
  refine Met.ofW (cc := cX1_write) (maxL := 4) (ret := (some .boolean)) (by decide) rfl ?_
  intro p e s m args below meth c s₁ B hml hv
  obtain ⟨rfl, hsz, hP, hE, hD0⟩ := hv
  have hx := B.exec
  have hb := B.bytes
  have hr := B.returns
  have hts := atoms_spec (ws := wsX1_write) B.pre
  have hown : s.vm.findClass RX1 = some m.cls := findClass_of_methodNamed B.named
  have hlocks := B.notSynchronized
  have hK := hE.1
  subst hsz
  have hD := hD0.self (sz := s.heap.size)
  generalize hAe : va_A (wS G b z) s.heap.size = A at hD ⊢
  have hA : ∀ q : Nat, s.heap.size ≤ q → A q := fun q h => by rw [← hAe]; exact Or.inr h
  have hS : va_S A s.heap s.heap [] := va_S.rf
  have hl := lv_entry ([.ref (b 5), .int x, .int t, .int f]) (n := 4) (Nat.le_of_ble_eq_true rfl)
  rw [lg_entry_eq]
  generalize (lg_sl ([.ref (b 5), .int x, .int t, .int f]) ++ List.replicate (4 - (lg_sl ([.ref (b 5), .int x, .int t, .int f])).length) Slot.unset).toArray = ls at hl ⊢
  have hl : lv_has ls 4 [(0, .ref (b 5)), (1, .int x), (2, .int t), (3, .int f)] := hl
  refine lv_aload_n hx hb dX1_write_0 rfl (lv_at hl 0 rfl) ?_
  refine va_get (D := G.1) (ci := 1) (v := .int (z 3 0)) (C := RX1) (T := TX1) (N := 5) hx hb hts (fun w9 h9 => List.mem_cons_of_mem _ (List.mem_append_right _ h9)) hown hK hP 0 rfl rfl 3 (by decide) (hts (.fieldLink RX1 21 "GlassHarp$Score" "notes" "I") (List.mem_of_getElem? (i := 1) rfl)) (fun _ h9 => h9) rfl dX1_write_1 ?_
  refine gh_vv (y := nI nn) (hz) ?_
  refine lv_bipush (v := 32) hx hb dX1_write_4 (by decide) ?_
  refine lv_icmp_lt (tgt := 11) hx hb dX1_write_6 (by decide) (fun c_1 => ?_) (fun c_1 => ?_)
  · skip
    have hnn : nn < 32 := gh_lt_n c_1 rfl (Nat.lt_of_le_of_lt hz32 (by decide)) (by decide)
    refine lv_aload_n hx hb dX1_write_11 rfl (lv_at hl 0 rfl) ?_
    refine va_get (D := G.1) (ci := 1) (v := .ref (b 0)) (C := RX1) (T := TX1) (N := 5) hx hb hts (fun w9 h9 => List.mem_cons_of_mem _ (List.mem_append_right _ h9)) hown hK hP 0 rfl rfl 0 (by decide) (hts (.fieldLink RX1 9 "GlassHarp$Score" "beats" "[I") (List.mem_of_getElem? (i := 2) rfl)) (fun _ h9 => h9) rfl dX1_write_12 ?_
    refine lv_aload_n hx hb dX1_write_15 rfl (lv_at hl 0 rfl) ?_
    refine va_get (D := G.1) (ci := 1) (v := .int (z 3 0)) (C := RX1) (T := TX1) (N := 5) hx hb hts (fun w9 h9 => List.mem_cons_of_mem _ (List.mem_append_right _ h9)) hown hK hP 0 rfl rfl 3 (by decide) (hts (.fieldLink RX1 21 "GlassHarp$Score" "notes" "I") (List.mem_of_getElem? (i := 1) rfl)) (fun _ h9 => h9) rfl dX1_write_16 ?_
    refine gh_vv (y := nI nn) (hz) ?_
    refine lv_iload_n hx hb dX1_write_19 rfl (lv_at hl 1 rfl) ?_
    refine gh_is (f := z 0) (ws' := wS G b (gh_st z 0 (upd (z 0) nn x))) hx hb hK hP hD hS 1 0 rfl rfl nn (rfl) (by omega) (by decide) dX1_write_20 rfl (fun H locs hP hD hS => ?_)
    refine lv_aload_n hx hb dX1_write_21 rfl (lv_at hl 0 rfl) ?_
    refine va_get (D := G.1) (ci := 1) (v := .ref (b 1)) (C := RX1) (T := TX1) (N := 5) hx hb hts (fun w9 h9 => List.mem_cons_of_mem _ (List.mem_append_right _ h9)) hown hK hP 0 rfl rfl 1 (by decide) (hts (.fieldLink RX1 15 "GlassHarp$Score" "tones" "[I") (List.mem_of_getElem? (i := 3) rfl)) (fun _ h9 => h9) rfl dX1_write_22 ?_
    refine lv_aload_n hx hb dX1_write_25 rfl (lv_at hl 0 rfl) ?_
    refine va_get (D := G.1) (ci := 1) (v := .int (z 3 0)) (C := RX1) (T := TX1) (N := 5) hx hb hts (fun w9 h9 => List.mem_cons_of_mem _ (List.mem_append_right _ h9)) hown hK hP 0 rfl rfl 3 (by decide) (hts (.fieldLink RX1 21 "GlassHarp$Score" "notes" "I") (List.mem_of_getElem? (i := 1) rfl)) (fun _ h9 => h9) rfl dX1_write_26 ?_
    refine gh_vv (y := nI nn) (hz) ?_
    refine lv_iload_n hx hb dX1_write_29 rfl (lv_at hl 2 rfl) ?_
    refine gh_is (f := z 1) (ws' := wS G b (gh_st (gh_st z 0 (upd (z 0) nn x)) 1 (upd (z 1) nn t))) hx hb hK hP hD hS 2 0 rfl rfl nn (rfl) (by omega) (by decide) dX1_write_30 rfl (fun H locs hP hD hS => ?_)
    refine lv_aload_n hx hb dX1_write_31 rfl (lv_at hl 0 rfl) ?_
    refine va_get (D := G.1) (ci := 1) (v := .ref (b 2)) (C := RX1) (T := TX1) (N := 5) hx hb hts (fun w9 h9 => List.mem_cons_of_mem _ (List.mem_append_right _ h9)) hown hK hP 0 rfl rfl 2 (by decide) (hts (.fieldLink RX1 18 "GlassHarp$Score" "forces" "[I") (List.mem_of_getElem? (i := 4) rfl)) (fun _ h9 => h9) rfl dX1_write_32 ?_
    refine lv_aload_n hx hb dX1_write_35 rfl (lv_at hl 0 rfl) ?_
    refine va_get (D := G.1) (ci := 1) (v := .int (z 3 0)) (C := RX1) (T := TX1) (N := 5) hx hb hts (fun w9 h9 => List.mem_cons_of_mem _ (List.mem_append_right _ h9)) hown hK hP 0 rfl rfl 3 (by decide) (hts (.fieldLink RX1 21 "GlassHarp$Score" "notes" "I") (List.mem_of_getElem? (i := 1) rfl)) (fun _ h9 => h9) rfl dX1_write_36 ?_
    refine gh_vv (y := nI nn) (hz) ?_
    refine lv_iload_n hx hb dX1_write_39 rfl (lv_at hl 3 rfl) ?_
    refine gh_is (f := z 2) (ws' := wS G b (gh_st (gh_st (gh_st z 0 (upd (z 0) nn x)) 1 (upd (z 1) nn t)) 2 (upd (z 2) nn f))) hx hb hK hP hD hS 3 0 rfl rfl nn (rfl) (by omega) (by decide) dX1_write_40 rfl (fun H locs hP hD hS => ?_)
    refine lv_aload_n hx hb dX1_write_41 rfl (lv_at hl 0 rfl) ?_
    refine lv_dup hx hb dX1_write_42 rfl ?_
    refine va_get (D := G.1) (ci := 1) (v := .int (z 3 0)) (C := RX1) (T := TX1) (N := 5) hx hb hts (fun w9 h9 => List.mem_cons_of_mem _ (List.mem_append_right _ h9)) hown hK hP 0 rfl rfl 3 (by decide) (hts (.fieldLink RX1 21 "GlassHarp$Score" "notes" "I") (List.mem_of_getElem? (i := 1) rfl)) (fun _ h9 => h9) rfl dX1_write_43 ?_
    refine gh_vv (y := nI nn) (hz) ?_
    refine lv_iconst (v := 1) hx hb dX1_write_46 (by decide) ?_
    refine lv_iadd hx hb dX1_write_47 ?_
    refine gh_vv (y := nI (nn + 1)) (nI_1 nn) ?_
    refine va_put (D := G.1) (ci := 1) (v := .int (nI (nn + 1))) (ty := .int) (C := RX1) (T := TX1) (N := 5) hx hb hts (fun w9 h9 => List.mem_cons_of_mem _ (List.mem_append_right _ h9)) tyX1 tyX1_ok nmX1 hown hK hP hD hS 0 rfl rfl 3 (by decide) (hts (.fieldLink RX1 21 "GlassHarp$Score" "notes" "I") (List.mem_of_getElem? (i := 1) rfl)) (fun _ h9 => h9) rfl (tyX1_ok 3 (by decide)) rfl rfl (Nat.le_of_ble_eq_true rfl) dX1_write_48 (fun H locs hP hD hS => ?_)
    have hP : va_P G.1 vwCl (wS G b (gh_st (gh_st (gh_st (gh_st z 0 (upd (z 0) nn x)) 1 (upd (z 1) nn t)) 2 (upd (z 2) nn f)) 3 (fun _ => nI (nn + 1)))) H := hP
    have hD : va_D A (wS G b (gh_st (gh_st (gh_st (gh_st z 0 (upd (z 0) nn x)) 1 (upd (z 1) nn t)) 2 (upd (z 2) nn f)) 3 (fun _ => nI (nn + 1)))) := hD
    refine lv_iconst (v := 1) hx hb dX1_write_51 (by decide) ?_
    have hP9 : va_P G.1 vwCl (wS G b (gh_wr z nn x t f)) H := by
      have e9 : gh_st (gh_st (gh_st (gh_st z 0 (upd (z 0) nn x)) 1 (upd (z 1) nn t)) 2 (upd (z 2) nn f)) 3 (fun _ => nI (nn + 1)) = gh_wr z nn x t f := by first | (simp only [gh_wr, c_1, ↓reduceIte, if_true, if_false]; done) | (simp only [gh_wr]; simp only [c_1, ↓reduceIte, if_true, if_false]; done)
      rw [← e9]
      exact hP
    exact W.zret (v := 1) hx hb hr (by decide) (fun t9 ht hW => ⟨⟨1, (), rfl, by first | (simp only [gh_wr, c_1, ↓reduceIte, if_true, if_false]; done) | (simp only [gh_wr]; simp only [c_1, ↓reduceIte, if_true, if_false]; done), gh_hp hP9 ht⟩, hS.F ht⟩) hS.2.2 dX1_write_52
  · skip
    refine lv_iconst (v := 0) hx hb dX1_write_9 (by decide) ?_
    have hP9 : va_P G.1 vwCl (wS G b (gh_wr z nn x t f)) s.heap := by
      have e9 : z = gh_wr z nn x t f := by first | (simp only [gh_wr, c_1, ↓reduceIte, if_true, if_false]; done) | (simp only [gh_wr]; simp only [c_1, ↓reduceIte, if_true, if_false]; done)
      rw [← e9]
      exact hP
    exact W.zret (v := 0) hx hb hr (by decide) (fun t9 ht hW => ⟨⟨0, (), rfl, by first | (simp only [gh_wr, c_1, ↓reduceIte, if_true, if_false]; done) | (simp only [gh_wr]; simp only [c_1, ↓reduceIte, if_true, if_false]; done), gh_hp hP9 ht⟩, hS.F ht⟩) hS.2.2 dX1_write_10
set_option maxHeartbeats 4000000 in
set_option maxRecDepth 100000 in
theorem c_X1_takeOut (l : Launch) (G : gh_G) (sz : Nat) (b : Nat → Nat) (z : gh_B) (nn : Nat) (k : Nat) (hz : z 3 0 = nI nn) (hz32 : nn ≤ 32) (hk : k < nn) : Met l yX1_takeOut wsX1_takeOut ({ frames := 1, cells := 0, slots := 0, locals := 21 } : Room) (gh_w G [.ref (b 5), .int (nI k)] (wS G b z) sz) (va_Qv (fun _ : Unit => True) (fun _ t9 => va_P G.1 vwCl (wS G b (gh_st (gh_sh z k (nn - 1)) 3 (fun _ => nI (nn - 1)))) t9.heap) (va_A (wS G b z) sz)) 0 0 (va_A (wS G b z) sz) := by
  refine Met.ofW (cc := cX1_takeOut) (maxL := 3) (ret := none) (by decide) rfl ?_
  intro p e s m args below meth c s₁ B hml hv
  obtain ⟨rfl, hsz, hP, hE, hD0⟩ := hv
  have hx := B.exec
  have hb := B.bytes
  have hr := B.returns
  have hts := atoms_spec (ws := wsX1_takeOut) B.pre
  have hown : s.vm.findClass RX1 = some m.cls := findClass_of_methodNamed B.named
  have hlocks := B.notSynchronized
  have hK := hE.1
  subst hsz
  have hD := hD0.self (sz := s.heap.size)
  generalize hAe : va_A (wS G b z) s.heap.size = A at hD ⊢
  have hA : ∀ q : Nat, s.heap.size ≤ q → A q := fun q h => by rw [← hAe]; exact Or.inr h
  have hS : va_S A s.heap s.heap [] := va_S.rf
  have hl := lv_entry ([.ref (b 5), .int (nI k)]) (n := 3) (Nat.le_of_ble_eq_true rfl)
  rw [lg_entry_eq]
  generalize (lg_sl ([.ref (b 5), .int (nI k)]) ++ List.replicate (3 - (lg_sl ([.ref (b 5), .int (nI k)])).length) Slot.unset).toArray = ls at hl ⊢
  have hl : lv_has ls 3 [(0, .ref (b 5)), (1, .int (nI k))] := hl
  refine lv_aload_n hx hb dX1_takeOut_0 rfl (lv_at hl 0 rfl) ?_
  refine lv_iload_n hx hb dX1_takeOut_1 rfl (lv_at hl 1 rfl) ?_
  refine gh_ci (va_runV (As := [.int (nI k)]) (rest := []) ⟨hx, hb, hml, hown, hts⟩ (c_X1_hasNote l G b z (nI k)) (cwV 1 hts gX1_takeOut_X1_hasNote rfl rfl rfl ⟨rfl, hdS_X1_hasNote⟩ ⟨Nat.le_of_ble_eq_true rfl, Nat.le_of_ble_eq_true rfl⟩) (gh_rV hE hP (ci := 1) (q0 := 0) rfl rfl) rfl rfl hl.1 rfl (lv_room (Nat.le_of_ble_eq_true rfl)) dX1_takeOut_2 ⟨Nat.le_of_ble_eq_true rfl, Nat.le_of_ble_eq_true rfl⟩) ?_
  refine gh_vv (y := 1) (gh_rg_1 hz (Nat.lt_of_le_of_lt hz32 (by decide)) hk) ?_
  refine lv_if_ne (tgt := 9) hx hb dX1_takeOut_5 (by decide) (fun c_1 => ?_) (fun c_1 => absurd c_1 (by decide))
  refine lv_iload_n hx hb dX1_takeOut_9 rfl (lv_at hl 1 rfl) ?_
  refine lv_istore_n (lv' := [(2, .int (nI k)), (0, .ref (b 5)), (1, .int (nI k))]) hx hb dX1_takeOut_10 rfl hl (by decide) rfl (fun ls hl => ?_)
  have J11 : ∀ (B : gh_B), B = gh_sh z k k → B 3 0 = nI nn → ∀ (H : Heap) (locs : List Loc), va_P G.1 vwCl (wS G b B) H → va_D A (wS G b B) → va_S A s.heap H locs → ∀ (ls : Array Slot), lv_has ls 3 [(0, .ref (b 5)), (1, .int (nI k)), (2, .int (nI k))] → W p l e (headSpec wsX1_takeOut ({ frames := 1, cells := 0, slots := 0, locals := 21 } : Room)).room s m ([.ref (b 5), .int (nI k)] : List Value).toArray below meth c H locs 0 0 (MQ below (va_Qv (fun _ : Unit => True) (fun _ t9 => va_P G.1 vwCl (wS G b (gh_st (gh_sh z k (nn - 1)) 3 (fun _ => nI (nn - 1)))) t9.heap) A) ([.ref (b 5), .int (nI k)] : List Value).toArray s 0 0 A) (F0 m 11 ls []) := by
    refine gh_loop (n := nn - 1) (i0 := k) (by omega) (P := fun i => ∀ (B : gh_B), B = gh_sh z k i → B 3 0 = nI nn → ∀ (H : Heap) (locs : List Loc), va_P G.1 vwCl (wS G b B) H → va_D A (wS G b B) → va_S A s.heap H locs → ∀ (ls : Array Slot), lv_has ls 3 [(0, .ref (b 5)), (1, .int (nI k)), (2, .int (nI i))] → W p l e (headSpec wsX1_takeOut ({ frames := 1, cells := 0, slots := 0, locals := 21 } : Room)).room s m ([.ref (b 5), .int (nI k)] : List Value).toArray below meth c H locs 0 0 (MQ below (va_Qv (fun _ : Unit => True) (fun _ t9 => va_P G.1 vwCl (wS G b (gh_st (gh_sh z k (nn - 1)) 3 (fun _ => nI (nn - 1)))) t9.heap) A) ([.ref (b 5), .int (nI k)] : List Value).toArray s 0 0 A) (F0 m 11 ls [])) ?_ ?_
    · skip
      intro B EB hB H locs hP hD hS ls hl
      refine lv_iload_n hx hb dX1_takeOut_11 rfl (lv_at hl 2 rfl) ?_
      refine lv_iconst (v := 1) hx hb dX1_takeOut_12 (by decide) ?_
      refine lv_iadd hx hb dX1_takeOut_13 ?_
      refine gh_vv (y := nI (nn - 1 + 1)) (nI_1 (nn - 1)) ?_
      refine lv_aload_n hx hb dX1_takeOut_14 rfl (lv_at hl 0 rfl) ?_
      refine va_get (D := G.1) (ci := 1) (v := .int (B 3 0)) (C := RX1) (T := TX1) (N := 5) hx hb hts (fun w9 h9 => List.mem_cons_of_mem _ (List.mem_append_right _ h9)) hown hK hP 0 rfl rfl 3 (by decide) (hts (.fieldLink RX1 21 "GlassHarp$Score" "notes" "I") (List.mem_of_getElem? (i := 1) rfl)) (fun _ h9 => h9) rfl dX1_takeOut_15 ?_
      refine gh_vv (y := nI nn) (hB) ?_
      refine lv_icmp_ge (tgt := 69) hx hb dX1_takeOut_18 (by decide) (fun c_2 => ?_) (fun c_2 => absurd (nI_le (by omega) (by omega)) c_2)
      refine lv_aload_n hx hb dX1_takeOut_69 rfl (lv_at hl 0 rfl) ?_
      refine lv_dup hx hb dX1_takeOut_70 rfl ?_
      refine va_get (D := G.1) (ci := 1) (v := .int (B 3 0)) (C := RX1) (T := TX1) (N := 5) hx hb hts (fun w9 h9 => List.mem_cons_of_mem _ (List.mem_append_right _ h9)) hown hK hP 0 rfl rfl 3 (by decide) (hts (.fieldLink RX1 21 "GlassHarp$Score" "notes" "I") (List.mem_of_getElem? (i := 1) rfl)) (fun _ h9 => h9) rfl dX1_takeOut_71 ?_
      refine gh_vv (y := nI nn) (hB) ?_
      refine lv_iconst (v := 1) hx hb dX1_takeOut_74 (by decide) ?_
      refine lv_isub hx hb dX1_takeOut_75 ?_
      refine gh_vv (y := nI (nn - 1)) (pk_sub (a := nn) (b := 1) (by omega)) ?_
      refine va_put (D := G.1) (ci := 1) (v := .int (nI (nn - 1))) (ty := .int) (C := RX1) (T := TX1) (N := 5) hx hb hts (fun w9 h9 => List.mem_cons_of_mem _ (List.mem_append_right _ h9)) tyX1 tyX1_ok nmX1 hown hK hP hD hS 0 rfl rfl 3 (by decide) (hts (.fieldLink RX1 21 "GlassHarp$Score" "notes" "I") (List.mem_of_getElem? (i := 1) rfl)) (fun _ h9 => h9) rfl (tyX1_ok 3 (by decide)) rfl rfl (Nat.le_of_ble_eq_true rfl) dX1_takeOut_76 (fun H locs hP hD hS => ?_)
      have hP : va_P G.1 vwCl (wS G b (gh_st B 3 (fun _ => nI (nn - 1)))) H := hP
      have hD : va_D A (wS G b (gh_st B 3 (fun _ => nI (nn - 1)))) := hD
      have hP9 : va_P G.1 vwCl (wS G b (gh_st (gh_sh z k (nn - 1)) 3 (fun _ => nI (nn - 1)))) H := by
        have e9 : gh_st B 3 (fun _ => nI (nn - 1)) = gh_st (gh_sh z k (nn - 1)) 3 (fun _ => nI (nn - 1)) := by first | (simp only [← EB, c_2, ↓reduceIte, if_true, if_false]; done) | (simp only [← EB]; simp only [c_2, ↓reduceIte, if_true, if_false]; done)
        rw [← e9]
        exact hP
      exact W.vret hx hb hr (fun t9 ht hW => ⟨⟨(), rfl, trivial, gh_hp hP9 ht⟩, hS.F ht⟩) hS.2.2 dX1_takeOut_79
    · intro i hi_lo hi ih
      intro B EB hB H locs hP hD hS ls hl
      refine lv_iload_n hx hb dX1_takeOut_11 rfl (lv_at hl 2 rfl) ?_
      refine lv_iconst (v := 1) hx hb dX1_takeOut_12 (by decide) ?_
      refine lv_iadd hx hb dX1_takeOut_13 ?_
      refine gh_vv (y := nI (i + 1)) (nI_1 i) ?_
      refine lv_aload_n hx hb dX1_takeOut_14 rfl (lv_at hl 0 rfl) ?_
      refine va_get (D := G.1) (ci := 1) (v := .int (B 3 0)) (C := RX1) (T := TX1) (N := 5) hx hb hts (fun w9 h9 => List.mem_cons_of_mem _ (List.mem_append_right _ h9)) hown hK hP 0 rfl rfl 3 (by decide) (hts (.fieldLink RX1 21 "GlassHarp$Score" "notes" "I") (List.mem_of_getElem? (i := 1) rfl)) (fun _ h9 => h9) rfl dX1_takeOut_15 ?_
      refine gh_vv (y := nI nn) (hB) ?_
      refine lv_icmp_ge (tgt := 69) hx hb dX1_takeOut_18 (by decide) (fun c_3 => absurd c_3 (nI_ge (by omega) (by omega))) (fun c_3 => ?_)
      refine lv_aload_n hx hb dX1_takeOut_21 rfl (lv_at hl 0 rfl) ?_
      refine va_get (D := G.1) (ci := 1) (v := .ref (b 0)) (C := RX1) (T := TX1) (N := 5) hx hb hts (fun w9 h9 => List.mem_cons_of_mem _ (List.mem_append_right _ h9)) hown hK hP 0 rfl rfl 0 (by decide) (hts (.fieldLink RX1 9 "GlassHarp$Score" "beats" "[I") (List.mem_of_getElem? (i := 2) rfl)) (fun _ h9 => h9) rfl dX1_takeOut_22 ?_
      refine lv_iload_n hx hb dX1_takeOut_25 rfl (lv_at hl 2 rfl) ?_
      refine lv_aload_n hx hb dX1_takeOut_26 rfl (lv_at hl 0 rfl) ?_
      refine va_get (D := G.1) (ci := 1) (v := .ref (b 0)) (C := RX1) (T := TX1) (N := 5) hx hb hts (fun w9 h9 => List.mem_cons_of_mem _ (List.mem_append_right _ h9)) hown hK hP 0 rfl rfl 0 (by decide) (hts (.fieldLink RX1 9 "GlassHarp$Score" "beats" "[I") (List.mem_of_getElem? (i := 2) rfl)) (fun _ h9 => h9) rfl dX1_takeOut_27 ?_
      refine lv_iload_n hx hb dX1_takeOut_30 rfl (lv_at hl 2 rfl) ?_
      refine lv_iconst (v := 1) hx hb dX1_takeOut_31 (by decide) ?_
      refine lv_iadd hx hb dX1_takeOut_32 ?_
      refine gh_vv (y := nI (i + 1)) (nI_1 i) ?_
      refine gh_ia (f := B 0) hx hb hK hP 1 0 rfl rfl (i + 1) (rfl) (by omega) (by decide) dX1_takeOut_33 ?_
      refine gh_is (f := B 0) (ws' := wS G b (gh_st B 0 (upd (B 0) i (B 0 (i + 1))))) hx hb hK hP hD hS 1 0 rfl rfl i (rfl) (by omega) (by decide) dX1_takeOut_34 rfl (fun H locs hP hD hS => ?_)
      refine lv_aload_n hx hb dX1_takeOut_35 rfl (lv_at hl 0 rfl) ?_
      refine va_get (D := G.1) (ci := 1) (v := .ref (b 1)) (C := RX1) (T := TX1) (N := 5) hx hb hts (fun w9 h9 => List.mem_cons_of_mem _ (List.mem_append_right _ h9)) hown hK hP 0 rfl rfl 1 (by decide) (hts (.fieldLink RX1 15 "GlassHarp$Score" "tones" "[I") (List.mem_of_getElem? (i := 3) rfl)) (fun _ h9 => h9) rfl dX1_takeOut_36 ?_
      refine lv_iload_n hx hb dX1_takeOut_39 rfl (lv_at hl 2 rfl) ?_
      refine lv_aload_n hx hb dX1_takeOut_40 rfl (lv_at hl 0 rfl) ?_
      refine va_get (D := G.1) (ci := 1) (v := .ref (b 1)) (C := RX1) (T := TX1) (N := 5) hx hb hts (fun w9 h9 => List.mem_cons_of_mem _ (List.mem_append_right _ h9)) hown hK hP 0 rfl rfl 1 (by decide) (hts (.fieldLink RX1 15 "GlassHarp$Score" "tones" "[I") (List.mem_of_getElem? (i := 3) rfl)) (fun _ h9 => h9) rfl dX1_takeOut_41 ?_
      refine lv_iload_n hx hb dX1_takeOut_44 rfl (lv_at hl 2 rfl) ?_
      refine lv_iconst (v := 1) hx hb dX1_takeOut_45 (by decide) ?_
      refine lv_iadd hx hb dX1_takeOut_46 ?_
      refine gh_vv (y := nI (i + 1)) (nI_1 i) ?_
      refine gh_ia (f := B 1) hx hb hK hP 2 0 rfl rfl (i + 1) (rfl) (by omega) (by decide) dX1_takeOut_47 ?_
      refine gh_is (f := B 1) (ws' := wS G b (gh_st (gh_st B 0 (upd (B 0) i (B 0 (i + 1)))) 1 (upd (B 1) i (B 1 (i + 1))))) hx hb hK hP hD hS 2 0 rfl rfl i (rfl) (by omega) (by decide) dX1_takeOut_48 rfl (fun H locs hP hD hS => ?_)
      refine lv_aload_n hx hb dX1_takeOut_49 rfl (lv_at hl 0 rfl) ?_
      refine va_get (D := G.1) (ci := 1) (v := .ref (b 2)) (C := RX1) (T := TX1) (N := 5) hx hb hts (fun w9 h9 => List.mem_cons_of_mem _ (List.mem_append_right _ h9)) hown hK hP 0 rfl rfl 2 (by decide) (hts (.fieldLink RX1 18 "GlassHarp$Score" "forces" "[I") (List.mem_of_getElem? (i := 4) rfl)) (fun _ h9 => h9) rfl dX1_takeOut_50 ?_
      refine lv_iload_n hx hb dX1_takeOut_53 rfl (lv_at hl 2 rfl) ?_
      refine lv_aload_n hx hb dX1_takeOut_54 rfl (lv_at hl 0 rfl) ?_
      refine va_get (D := G.1) (ci := 1) (v := .ref (b 2)) (C := RX1) (T := TX1) (N := 5) hx hb hts (fun w9 h9 => List.mem_cons_of_mem _ (List.mem_append_right _ h9)) hown hK hP 0 rfl rfl 2 (by decide) (hts (.fieldLink RX1 18 "GlassHarp$Score" "forces" "[I") (List.mem_of_getElem? (i := 4) rfl)) (fun _ h9 => h9) rfl dX1_takeOut_55 ?_
      refine lv_iload_n hx hb dX1_takeOut_58 rfl (lv_at hl 2 rfl) ?_
      refine lv_iconst (v := 1) hx hb dX1_takeOut_59 (by decide) ?_
      refine lv_iadd hx hb dX1_takeOut_60 ?_
      refine gh_vv (y := nI (i + 1)) (nI_1 i) ?_
      refine gh_ia (f := B 2) hx hb hK hP 3 0 rfl rfl (i + 1) (rfl) (by omega) (by decide) dX1_takeOut_61 ?_
      refine gh_is (f := B 2) (ws' := wS G b (gh_st (gh_st (gh_st B 0 (upd (B 0) i (B 0 (i + 1)))) 1 (upd (B 1) i (B 1 (i + 1)))) 2 (upd (B 2) i (B 2 (i + 1))))) hx hb hK hP hD hS 3 0 rfl rfl i (rfl) (by omega) (by decide) dX1_takeOut_62 rfl (fun H locs hP hD hS => ?_)
      refine lv_iinc (v := nI (i + 1)) (lv' := [(2, .int (nI (i + 1))), (0, .ref (b 5)), (1, .int (nI k))]) hx hb dX1_takeOut_63 hl (k := 2) rfl (nI_1 i) (by decide) rfl (fun ls hl => ?_)
      refine lv_goto (tgt := 11) hx hb dX1_takeOut_66 (by decide) ?_
      exact ih (gh_st (gh_st (gh_st B 0 (upd (B 0) i (B 0 (i + 1)))) 1 (upd (B 1) i (B 1 (i + 1)))) 2 (upd (B 2) i (B 2 (i + 1)))) (by rw [gh_sh_s z hi_lo, ← EB]; rfl) (hB) _ _ hP hD hS _ (lv_sub hl [1, 2, 0] rfl)
  exact J11 z ((gh_sh_k z k).symm) (hz) _ _ hP hD hS _ (lv_sub hl [1, 2, 0] rfl)
set_option maxHeartbeats 4000000 in
set_option maxRecDepth 100000 in
theorem c_X0_fillBellows (l : Launch) (G : gh_G) (sz : Nat) (a : Nat → Nat) (sc : Nat) (o : gh_B)  : Met l yX0_fillBellows wsX0_fillBellows ({ frames := 1, cells := 0, slots := 0, locals := 21 } : Room) (gh_w G [.ref (a 0)] (wO G a sc o) sz) (va_Qv (fun _ : Unit => True) (fun _ t9 => va_P G.1 vwCl (wO G a sc (gh_fb o 4)) t9.heap) (va_A (wO G a sc o) sz)) 0 0 (va_A (wO G a sc o) sz) := by
  refine Met.ofW (cc := cX0_fillBellows) (maxL := 2) (ret := none) (by decide) rfl ?_
  intro p e s m args below meth c s₁ B hml hv
  obtain ⟨rfl, hsz, hP, hE, hD0⟩ := hv
  have hx := B.exec
  have hb := B.bytes
  have hr := B.returns
  have hts := atoms_spec (ws := wsX0_fillBellows) B.pre
  have hown : s.vm.findClass RX0 = some m.cls := findClass_of_methodNamed B.named
  have hlocks := B.notSynchronized
  have hK := hE.1
  subst hsz
  have hD := hD0.self (sz := s.heap.size)
  generalize hAe : va_A (wO G a sc o) s.heap.size = A at hD ⊢
  have hA : ∀ q : Nat, s.heap.size ≤ q → A q := fun q h => by rw [← hAe]; exact Or.inr h
  have hS : va_S A s.heap s.heap [] := va_S.rf
  have hl := lv_entry ([.ref (a 0)]) (n := 2) (Nat.le_of_ble_eq_true rfl)
  rw [lg_entry_eq]
  generalize (lg_sl ([.ref (a 0)]) ++ List.replicate (2 - (lg_sl ([.ref (a 0)])).length) Slot.unset).toArray = ls at hl ⊢
  have hl : lv_has ls 2 [(0, .ref (a 0))] := hl
  refine lv_iconst (v := 0) hx hb dX0_fillBellows_0 (by decide) ?_
  refine lv_istore_n (lv' := [(1, .int 0), (0, .ref (a 0))]) hx hb dX0_fillBellows_1 rfl hl (by decide) rfl (fun ls hl => ?_)
  have J2 : ∀ (B : gh_B), B = gh_fb o 0 → ∀ (H : Heap) (locs : List Loc), va_P G.1 vwCl (wO G a sc B) H → va_D A (wO G a sc B) → va_S A s.heap H locs → ∀ (ls : Array Slot), lv_has ls 2 [(0, .ref (a 0)), (1, .int (nI 0))] → W p l e (headSpec wsX0_fillBellows ({ frames := 1, cells := 0, slots := 0, locals := 21 } : Room)).room s m ([.ref (a 0)] : List Value).toArray below meth c H locs 0 0 (MQ below (va_Qv (fun _ : Unit => True) (fun _ t9 => va_P G.1 vwCl (wO G a sc (gh_fb o 4)) t9.heap) A) ([.ref (a 0)] : List Value).toArray s 0 0 A) (F0 m 2 ls []) := by
    refine gh_loop (n := 4) (i0 := 0) (Nat.zero_le _) (P := fun i => ∀ (B : gh_B), B = gh_fb o i → ∀ (H : Heap) (locs : List Loc), va_P G.1 vwCl (wO G a sc B) H → va_D A (wO G a sc B) → va_S A s.heap H locs → ∀ (ls : Array Slot), lv_has ls 2 [(0, .ref (a 0)), (1, .int (nI i))] → W p l e (headSpec wsX0_fillBellows ({ frames := 1, cells := 0, slots := 0, locals := 21 } : Room)).room s m ([.ref (a 0)] : List Value).toArray below meth c H locs 0 0 (MQ below (va_Qv (fun _ : Unit => True) (fun _ t9 => va_P G.1 vwCl (wO G a sc (gh_fb o 4)) t9.heap) A) ([.ref (a 0)] : List Value).toArray s 0 0 A) (F0 m 2 ls [])) ?_ ?_
    · skip
      intro B EB H locs hP hD hS ls hl
      refine lv_iload_n hx hb dX0_fillBellows_2 rfl (lv_at hl 1 rfl) ?_
      refine lv_iconst (v := 4) hx hb dX0_fillBellows_3 (by decide) ?_
      refine lv_icmp_ge (tgt := 37) hx hb dX0_fillBellows_4 (by decide) (fun c_1 => ?_) (fun c_1 => absurd (nI_le (Nat.le_refl _) (by decide)) c_1)
      have hP9 : va_P G.1 vwCl (wO G a sc (gh_fb o 4)) H := by
        have e9 : B = gh_fb o 4 := EB
        rw [← e9]
        exact hP
      exact W.vret hx hb hr (fun t9 ht hW => ⟨⟨(), rfl, trivial, gh_hp hP9 ht⟩, hS.F ht⟩) hS.2.2 dX0_fillBellows_37
    · intro i hi_lo hi ih
      intro B EB H locs hP hD hS ls hl
      refine lv_iload_n hx hb dX0_fillBellows_2 rfl (lv_at hl 1 rfl) ?_
      refine lv_iconst (v := 4) hx hb dX0_fillBellows_3 (by decide) ?_
      refine lv_icmp_ge (tgt := 37) hx hb dX0_fillBellows_4 (by decide) (fun c_2 => absurd c_2 (nI_ge hi (by decide))) (fun c_2 => ?_)
      refine lv_aload_n hx hb dX0_fillBellows_7 rfl (lv_at hl 0 rfl) ?_
      refine va_get (D := G.1) (ci := 0) (v := .ref (a 8)) (C := RX0) (T := TX0) (N := 15) hx hb hts (fun w9 h9 => List.mem_cons_of_mem _ (List.mem_append_right _ h9)) hown hK hP 0 rfl rfl 8 (by decide) (hts (.fieldLink RX0 34 "GlassHarp$Orchestra" "air" "[I") (List.mem_of_getElem? (i := 1) rfl)) (fun _ h9 => h9) rfl dX0_fillBellows_8 ?_
      refine lv_iload_n hx hb dX0_fillBellows_11 rfl (lv_at hl 1 rfl) ?_
      refine lv_bipush (v := 60) hx hb dX0_fillBellows_12 (by decide) ?_
      refine lv_aload_n hx hb dX0_fillBellows_14 rfl (lv_at hl 0 rfl) ?_
      refine va_get (D := G.1) (ci := 0) (v := .ref (a 8)) (C := RX0) (T := TX0) (N := 15) hx hb hts (fun w9 h9 => List.mem_cons_of_mem _ (List.mem_append_right _ h9)) hown hK hP 0 rfl rfl 8 (by decide) (hts (.fieldLink RX0 34 "GlassHarp$Orchestra" "air" "[I") (List.mem_of_getElem? (i := 1) rfl)) (fun _ h9 => h9) rfl dX0_fillBellows_15 ?_
      refine lv_iload_n hx hb dX0_fillBellows_18 rfl (lv_at hl 1 rfl) ?_
      refine gh_ia (f := B 8) hx hb hK hP 8 0 rfl rfl i (rfl) (by omega) (by decide) dX0_fillBellows_19 ?_
      refine lv_aload_n hx hb dX0_fillBellows_20 rfl (lv_at hl 0 rfl) ?_
      refine va_get (D := G.1) (ci := 0) (v := .ref (a 9)) (C := RX0) (T := TX0) (N := 15) hx hb hts (fun w9 h9 => List.mem_cons_of_mem _ (List.mem_append_right _ h9)) hown hK hP 0 rfl rfl 9 (by decide) (hts (.fieldLink RX0 37 "GlassHarp$Orchestra" "pumps" "[I") (List.mem_of_getElem? (i := 2) rfl)) (fun _ h9 => h9) rfl dX0_fillBellows_21 ?_
      refine lv_iload_n hx hb dX0_fillBellows_24 rfl (lv_at hl 1 rfl) ?_
      refine gh_ia (f := B 9) hx hb hK hP 9 0 rfl rfl i (rfl) (by omega) (by decide) dX0_fillBellows_25 ?_
      refine lv_iadd hx hb dX0_fillBellows_26 ?_
      refine va_mmin hx hb (hml.trans hl.1.symm) hown (hts (.methodLink RX0 112 Lib.Math.min.name) (List.mem_of_getElem? (i := 3) rfl)) (hts (.static Lib.Math.min.name) (List.mem_of_getElem? (i := 4) rfl)) (hts (.initialized "java/lang/Math") (List.mem_of_getElem? (i := 5) rfl)) (hts (.code Lib.Math.min.name Lib.Math.min.code 2 (some .int)) (List.mem_of_getElem? (i := 6) rfl)) (Nat.le_of_ble_eq_true rfl) (Nat.le_of_ble_eq_true rfl) (Nat.le_of_ble_eq_true rfl) (Nat.le_of_ble_eq_true rfl) dX0_fillBellows_27 ?_
      refine gh_vv (y := gh_mn (B 8 i + B 9 i)) (rfl) ?_
      refine gh_is (f := B 8) (ws' := wO G a sc (gh_st B 8 (upd (B 8) i (gh_mn (B 8 i + B 9 i))))) hx hb hK hP hD hS 8 0 rfl rfl i (rfl) (by omega) (by decide) dX0_fillBellows_30 rfl (fun H locs hP hD hS => ?_)
      refine lv_iinc (v := nI (i + 1)) (lv' := [(1, .int (nI (i + 1))), (0, .ref (a 0))]) hx hb dX0_fillBellows_31 hl (k := 1) rfl (nI_1 i) (by decide) rfl (fun ls hl => ?_)
      refine lv_goto (tgt := 2) hx hb dX0_fillBellows_34 (by decide) ?_
      exact ih (gh_st B 8 (upd (B 8) i (gh_mn (B 8 i + B 9 i)))) (by first | (simp only [gh_fb, ← EB, c_2, ↓reduceIte, if_true, if_false]; done) | (simp only [gh_fb, ← EB]; simp only [c_2, ↓reduceIte, if_true, if_false]; done)) _ _ hP hD hS _ (lv_sub hl [1, 0] rfl)
  exact J2 o (by first | (simp only [gh_fb, ↓reduceIte, if_true, if_false]; done) | (simp only [gh_fb, ↓reduceIte, if_true, if_false]; rfl)) _ _ hP hD hS _ (lv_sub hl [1, 0] rfl)
set_option maxHeartbeats 4000000 in
set_option maxRecDepth 100000 in
theorem c_X0_rub (l : Launch) (G : gh_G) (sz : Nat) (a : Nat → Nat) (sc : Nat) (o : gh_B) (n : Nat) (k : Nat) (t : Int32) (f : Int32) (hn : o 10 0 = nI n) (hn16 : n ≤ 16) (hk : k < n) : Met l yX0_rub wsX0_rub ({ frames := 2, cells := 0, slots := 0, locals := 44 } : Room) (gh_w G [.ref (a 0), .int (nI k), .int t, .int f] (wO G a sc o) sz) (va_Qv (fun _ : Unit => True) (fun _ t9 => va_P G.1 vwCl (wO G a sc (gh_rub o k t f)) t9.heap) (va_A (wO G a sc o) sz)) 0 0 (va_A (wO G a sc o) sz) := by
  refine Met.ofW (cc := cX0_rub) (maxL := 5) (ret := none) (by decide) rfl ?_
  intro p e s m args below meth c s₁ B hml hv
  obtain ⟨rfl, hsz, hP, hE, hD0⟩ := hv
  have hx := B.exec
  have hb := B.bytes
  have hr := B.returns
  have hts := atoms_spec (ws := wsX0_rub) B.pre
  have hown : s.vm.findClass RX0 = some m.cls := findClass_of_methodNamed B.named
  have hlocks := B.notSynchronized
  have hK := hE.1
  subst hsz
  have hD := hD0.self (sz := s.heap.size)
  generalize hAe : va_A (wO G a sc o) s.heap.size = A at hD ⊢
  have hA : ∀ q : Nat, s.heap.size ≤ q → A q := fun q h => by rw [← hAe]; exact Or.inr h
  have hS : va_S A s.heap s.heap [] := va_S.rf
  have hl := lv_entry ([.ref (a 0), .int (nI k), .int t, .int f]) (n := 5) (Nat.le_of_ble_eq_true rfl)
  rw [lg_entry_eq]
  generalize (lg_sl ([.ref (a 0), .int (nI k), .int t, .int f]) ++ List.replicate (5 - (lg_sl ([.ref (a 0), .int (nI k), .int t, .int f])).length) Slot.unset).toArray = ls at hl ⊢
  have hl : lv_has ls 5 [(0, .ref (a 0)), (1, .int (nI k)), (2, .int t), (3, .int f)] := hl
  have J33 : ∀ (B : gh_B), B = gh_r1 o k t → ∀ (H : Heap) (locs : List Loc), va_P G.1 vwCl (wO G a sc B) H → va_D A (wO G a sc B) → va_S A s.heap H locs → ∀ (ls : Array Slot), lv_has ls 5 [(0, .ref (a 0)), (1, .int (nI k)), (2, .int t), (3, .int f)] → W p l e (headSpec wsX0_rub ({ frames := 2, cells := 0, slots := 0, locals := 44 } : Room)).room s m ([.ref (a 0), .int (nI k), .int t, .int f] : List Value).toArray below meth c H locs 0 0 (MQ below (va_Qv (fun _ : Unit => True) (fun _ t9 => va_P G.1 vwCl (wO G a sc (gh_rub o k t f)) t9.heap) A) ([.ref (a 0), .int (nI k), .int t, .int f] : List Value).toArray s 0 0 A) (F0 m 33 ls []) := by
    intro B EB H locs hP hD hS ls hl
    have J62 : ∀ (C : gh_B) (x4 : Int32), C = gh_r2 B k f → ∀ (H : Heap) (locs : List Loc), va_P G.1 vwCl (wO G a sc C) H → va_D A (wO G a sc C) → va_S A s.heap H locs → ∀ (ls : Array Slot), lv_has ls 5 [(0, .ref (a 0)), (1, .int (nI k)), (2, .int t), (3, .int f), (4, .int x4)] → W p l e (headSpec wsX0_rub ({ frames := 2, cells := 0, slots := 0, locals := 44 } : Room)).room s m ([.ref (a 0), .int (nI k), .int t, .int f] : List Value).toArray below meth c H locs 0 0 (MQ below (va_Qv (fun _ : Unit => True) (fun _ t9 => va_P G.1 vwCl (wO G a sc (gh_rub o k t f)) t9.heap) A) ([.ref (a 0), .int (nI k), .int t, .int f] : List Value).toArray s 0 0 A) (F0 m 62 ls []) := by
      intro C x4 EC H locs hP hD hS ls hl
      refine lv_aload_n hx hb dX0_rub_62 rfl (lv_at hl 0 rfl) ?_
      refine va_get (D := G.1) (ci := 0) (v := .ref (a 7)) (C := RX0) (T := TX0) (N := 15) hx hb hts (fun w9 h9 => List.mem_cons_of_mem _ (List.mem_append_right _ h9)) hown hK hP 0 rfl rfl 7 (by decide) (hts (.fieldLink RX0 31 "GlassHarp$Orchestra" "busy" "[Z") (List.mem_of_getElem? (i := 5) rfl)) (fun _ h9 => h9) rfl dX0_rub_63 ?_
      refine lv_iload_n hx hb dX0_rub_66 rfl (lv_at hl 1 rfl) ?_
      refine lv_iconst (v := 1) hx hb dX0_rub_67 (by decide) ?_
      refine gh_zs (f := C 7) (ws' := wO G a sc (gh_st C 7 (upd (C 7) k 1))) hx hb hK hP hD hS 7 1 rfl rfl k (rfl) (by omega) (by decide) dX0_rub_68 (by decide) rfl (fun H locs hP hD hS => ?_)
      refine lv_aload_n hx hb dX0_rub_69 rfl (lv_at hl 0 rfl) ?_
      refine va_get (D := G.1) (ci := 0) (v := .ref (a 6)) (C := RX0) (T := TX0) (N := 15) hx hb hts (fun w9 h9 => List.mem_cons_of_mem _ (List.mem_append_right _ h9)) hown hK hP 0 rfl rfl 6 (by decide) (hts (.fieldLink RX0 28 "GlassHarp$Orchestra" "plays" "[I") (List.mem_of_getElem? (i := 6) rfl)) (fun _ h9 => h9) rfl dX0_rub_70 ?_
      refine lv_iload_n hx hb dX0_rub_73 rfl (lv_at hl 1 rfl) ?_
      refine lv_dup2_11 hx hb dX0_rub_74 rfl rfl ?_
      refine gh_ia (f := C 6) hx hb hK hP 6 0 rfl rfl k (rfl) (by omega) (by decide) dX0_rub_75 ?_
      refine lv_iconst (v := 1) hx hb dX0_rub_76 (by decide) ?_
      refine lv_iadd hx hb dX0_rub_77 ?_
      refine gh_is (f := C 6) (ws' := wO G a sc (gh_st (gh_st C 7 (upd (C 7) k 1)) 6 (upd (C 6) k ((C 6 k) + 1)))) hx hb hK hP hD hS 6 0 rfl rfl k (rfl) (by omega) (by decide) dX0_rub_78 rfl (fun H locs hP hD hS => ?_)
      refine lv_aload_n hx hb dX0_rub_79 rfl (lv_at hl 0 rfl) ?_
      refine va_get (D := G.1) (ci := 0) (v := .ref (a 5)) (C := RX0) (T := TX0) (N := 15) hx hb hts (fun w9 h9 => List.mem_cons_of_mem _ (List.mem_append_right _ h9)) hown hK hP 0 rfl rfl 5 (by decide) (hts (.fieldLink RX0 25 "GlassHarp$Orchestra" "rings" "[I") (List.mem_of_getElem? (i := 7) rfl)) (fun _ h9 => h9) rfl dX0_rub_80 ?_
      refine lv_iload_n hx hb dX0_rub_83 rfl (lv_at hl 1 rfl) ?_
      refine lv_bipush (v := 9) hx hb dX0_rub_84 (by decide) ?_
      refine gh_is (f := C 5) (ws' := wO G a sc (gh_st (gh_st (gh_st C 7 (upd (C 7) k 1)) 6 (upd (C 6) k ((C 6 k) + 1))) 5 (upd (C 5) k 9))) hx hb hK hP hD hS 5 0 rfl rfl k (rfl) (by omega) (by decide) dX0_rub_86 rfl (fun H locs hP hD hS => ?_)
      refine lv_aload_n hx hb dX0_rub_87 rfl (lv_at hl 0 rfl) ?_
      refine va_get (D := G.1) (ci := 0) (v := .ref (a 3)) (C := RX0) (T := TX0) (N := 15) hx hb hts (fun w9 h9 => List.mem_cons_of_mem _ (List.mem_append_right _ h9)) hown hK hP 0 rfl rfl 3 (by decide) (hts (.fieldLink RX0 18 "GlassHarp$Orchestra" "drops" "[I") (List.mem_of_getElem? (i := 8) rfl)) (fun _ h9 => h9) rfl dX0_rub_88 ?_
      refine lv_iload_n hx hb dX0_rub_91 rfl (lv_at hl 1 rfl) ?_
      refine lv_iconst (v := 0) hx hb dX0_rub_92 (by decide) ?_
      refine lv_aload_n hx hb dX0_rub_93 rfl (lv_at hl 0 rfl) ?_
      refine va_get (D := G.1) (ci := 0) (v := .ref (a 3)) (C := RX0) (T := TX0) (N := 15) hx hb hts (fun w9 h9 => List.mem_cons_of_mem _ (List.mem_append_right _ h9)) hown hK hP 0 rfl rfl 3 (by decide) (hts (.fieldLink RX0 18 "GlassHarp$Orchestra" "drops" "[I") (List.mem_of_getElem? (i := 8) rfl)) (fun _ h9 => h9) rfl dX0_rub_94 ?_
      refine lv_iload_n hx hb dX0_rub_97 rfl (lv_at hl 1 rfl) ?_
      refine gh_ia (f := C 3) hx hb hK hP 3 0 rfl rfl k (rfl) (by omega) (by decide) dX0_rub_98 ?_
      refine lv_iload_n hx hb dX0_rub_99 rfl (lv_at hl 3 rfl) ?_
      refine lv_isub hx hb dX0_rub_100 ?_
      refine va_mmax hx hb (hml.trans hl.1.symm) hown (hts (.methodLink RX0 75 Lib.Math.max.name) (List.mem_of_getElem? (i := 9) rfl)) (hts (.static Lib.Math.max.name) (List.mem_of_getElem? (i := 10) rfl)) (hts (.initialized "java/lang/Math") (List.mem_of_getElem? (i := 11) rfl)) (hts (.code Lib.Math.max.name Lib.Math.max.code 2 (some .int)) (List.mem_of_getElem? (i := 12) rfl)) (Nat.le_of_ble_eq_true rfl) (Nat.le_of_ble_eq_true rfl) (Nat.le_of_ble_eq_true rfl) (Nat.le_of_ble_eq_true rfl) dX0_rub_101 ?_
      refine gh_vv (y := gh_m0 (C 3 k - f)) (rfl) ?_
      refine gh_is (f := C 3) (ws' := wO G a sc (gh_st (gh_st (gh_st (gh_st C 7 (upd (C 7) k 1)) 6 (upd (C 6) k ((C 6 k) + 1))) 5 (upd (C 5) k 9)) 3 (upd (C 3) k (gh_m0 (C 3 k - f))))) hx hb hK hP hD hS 3 0 rfl rfl k (rfl) (by omega) (by decide) dX0_rub_104 rfl (fun H locs hP hD hS => ?_)
      refine lv_iload_n hx hb dX0_rub_105 rfl (lv_at hl 3 rfl) ?_
      refine lv_aload_n hx hb dX0_rub_106 rfl (lv_at hl 0 rfl) ?_
      refine va_get (D := G.1) (ci := 0) (v := .ref (a 2)) (C := RX0) (T := TX0) (N := 15) hx hb hts (fun w9 h9 => List.mem_cons_of_mem _ (List.mem_append_right _ h9)) hown hK hP 0 rfl rfl 2 (by decide) (hts (.fieldLink RX0 15 "GlassHarp$Orchestra" "sizes" "[I") (List.mem_of_getElem? (i := 13) rfl)) (fun _ h9 => h9) rfl dX0_rub_107 ?_
      refine lv_iload_n hx hb dX0_rub_110 rfl (lv_at hl 1 rfl) ?_
      refine gh_ia (f := C 2) hx hb hK hP 2 0 rfl rfl k (rfl) (by omega) (by decide) dX0_rub_111 ?_
      refine lv_iconst (v := 3) hx hb dX0_rub_112 (by decide) ?_
      refine lv_iadd hx hb dX0_rub_113 ?_
      refine lv_icmp_le (tgt := 138) hx hb dX0_rub_114 (by decide) (fun c_3 => ?_) (fun c_3 => ?_)
      · skip
        have hP9 : va_P G.1 vwCl (wO G a sc (gh_rub o k t f)) H := by
          have e9 : gh_st (gh_st (gh_st (gh_st C 7 (upd (C 7) k 1)) 6 (upd (C 6) k ((C 6 k) + 1))) 5 (upd (C 5) k 9)) 3 (upd (C 3) k (gh_m0 (C 3 k - f))) = gh_rub o k t f := by first | (simp only [gh_rub, gh_r4, gh_r3, ← EB, ← EC, c_3, ↓reduceIte, if_true, if_false]; done) | (simp only [gh_rub, gh_r4, gh_r3, ← EB, ← EC]; simp only [c_3, ↓reduceIte, if_true, if_false]; done)
          rw [← e9]
          exact hP
        exact W.vret hx hb hr (fun t9 ht hW => ⟨⟨(), rfl, trivial, gh_hp hP9 ht⟩, hS.F ht⟩) hS.2.2 dX0_rub_138
      · skip
        refine lv_aload_n hx hb dX0_rub_117 rfl (lv_at hl 0 rfl) ?_
        refine va_get (D := G.1) (ci := 0) (v := .ref (a 4)) (C := RX0) (T := TX0) (N := 15) hx hb hts (fun w9 h9 => List.mem_cons_of_mem _ (List.mem_append_right _ h9)) hown hK hP 0 rfl rfl 4 (by decide) (hts (.fieldLink RX0 21 "GlassHarp$Orchestra" "cracked" "[Z") (List.mem_of_getElem? (i := 14) rfl)) (fun _ h9 => h9) rfl dX0_rub_118 ?_
        refine lv_iload_n hx hb dX0_rub_121 rfl (lv_at hl 1 rfl) ?_
        refine lv_iconst (v := 1) hx hb dX0_rub_122 (by decide) ?_
        refine gh_zs (f := C 4) (ws' := wO G a sc (gh_st (gh_st (gh_st (gh_st (gh_st C 7 (upd (C 7) k 1)) 6 (upd (C 6) k ((C 6 k) + 1))) 5 (upd (C 5) k 9)) 3 (upd (C 3) k (gh_m0 (C 3 k - f)))) 4 (upd (C 4) k 1))) hx hb hK hP hD hS 4 1 rfl rfl k (rfl) (by omega) (by decide) dX0_rub_123 (by decide) rfl (fun H locs hP hD hS => ?_)
        refine lv_aload_n hx hb dX0_rub_124 rfl (lv_at hl 0 rfl) ?_
        refine va_get (D := G.1) (ci := 0) (v := .ref (a 3)) (C := RX0) (T := TX0) (N := 15) hx hb hts (fun w9 h9 => List.mem_cons_of_mem _ (List.mem_append_right _ h9)) hown hK hP 0 rfl rfl 3 (by decide) (hts (.fieldLink RX0 18 "GlassHarp$Orchestra" "drops" "[I") (List.mem_of_getElem? (i := 8) rfl)) (fun _ h9 => h9) rfl dX0_rub_125 ?_
        refine lv_iload_n hx hb dX0_rub_128 rfl (lv_at hl 1 rfl) ?_
        refine lv_iconst (v := 0) hx hb dX0_rub_129 (by decide) ?_
        refine gh_is (f := upd (C 3) k (gh_m0 (C 3 k - f))) (ws' := wO G a sc (gh_st (gh_st (gh_st (gh_st (gh_st (gh_st C 7 (upd (C 7) k 1)) 6 (upd (C 6) k ((C 6 k) + 1))) 5 (upd (C 5) k 9)) 3 (upd (C 3) k (gh_m0 (C 3 k - f)))) 4 (upd (C 4) k 1)) 3 (upd (upd (C 3) k (gh_m0 (C 3 k - f))) k 0))) hx hb hK hP hD hS 3 0 rfl rfl k (rfl) (by omega) (by decide) dX0_rub_130 rfl (fun H locs hP hD hS => ?_)
        refine lv_aload_n hx hb dX0_rub_131 rfl (lv_at hl 0 rfl) ?_
        refine va_get (D := G.1) (ci := 0) (v := .ref (a 5)) (C := RX0) (T := TX0) (N := 15) hx hb hts (fun w9 h9 => List.mem_cons_of_mem _ (List.mem_append_right _ h9)) hown hK hP 0 rfl rfl 5 (by decide) (hts (.fieldLink RX0 25 "GlassHarp$Orchestra" "rings" "[I") (List.mem_of_getElem? (i := 7) rfl)) (fun _ h9 => h9) rfl dX0_rub_132 ?_
        refine lv_iload_n hx hb dX0_rub_135 rfl (lv_at hl 1 rfl) ?_
        refine lv_iconst (v := 0) hx hb dX0_rub_136 (by decide) ?_
        refine gh_is (f := upd (C 5) k 9) (ws' := wO G a sc (gh_st (gh_st (gh_st (gh_st (gh_st (gh_st (gh_st C 7 (upd (C 7) k 1)) 6 (upd (C 6) k ((C 6 k) + 1))) 5 (upd (C 5) k 9)) 3 (upd (C 3) k (gh_m0 (C 3 k - f)))) 4 (upd (C 4) k 1)) 3 (upd (upd (C 3) k (gh_m0 (C 3 k - f))) k 0)) 5 (upd (upd (C 5) k 9) k 0))) hx hb hK hP hD hS 5 0 rfl rfl k (rfl) (by omega) (by decide) dX0_rub_137 rfl (fun H locs hP hD hS => ?_)
        have hP9 : va_P G.1 vwCl (wO G a sc (gh_rub o k t f)) H := by
          have e9 : gh_st (gh_st (gh_st (gh_st (gh_st (gh_st (gh_st C 7 (upd (C 7) k 1)) 6 (upd (C 6) k ((C 6 k) + 1))) 5 (upd (C 5) k 9)) 3 (upd (C 3) k (gh_m0 (C 3 k - f)))) 4 (upd (C 4) k 1)) 3 (upd (upd (C 3) k (gh_m0 (C 3 k - f))) k 0)) 5 (upd (upd (C 5) k 9) k 0) = gh_rub o k t f := by first | (simp only [gh_rub, gh_r4, gh_r3, ← EB, ← EC, c_3, ↓reduceIte, if_true, if_false]; done) | (simp only [gh_rub, gh_r4, gh_r3, ← EB, ← EC]; simp only [c_3, ↓reduceIte, if_true, if_false]; done)
          rw [← e9]
          exact hP
        exact W.vret hx hb hr (fun t9 ht hW => ⟨⟨(), rfl, trivial, gh_hp hP9 ht⟩, hS.F ht⟩) hS.2.2 dX0_rub_138
    refine lv_aload_n hx hb dX0_rub_33 rfl (lv_at hl 0 rfl) ?_
    refine va_get (D := G.1) (ci := 0) (v := .ref (a 1)) (C := RX0) (T := TX0) (N := 15) hx hb hts (fun w9 h9 => List.mem_cons_of_mem _ (List.mem_append_right _ h9)) hown hK hP 0 rfl rfl 1 (by decide) (hts (.fieldLink RX0 9 "GlassHarp$Orchestra" "rows" "[I") (List.mem_of_getElem? (i := 3) rfl)) (fun _ h9 => h9) rfl dX0_rub_34 ?_
    refine lv_iload_n hx hb dX0_rub_37 rfl (lv_at hl 1 rfl) ?_
    refine gh_ia (f := B 1) hx hb hK hP 1 0 rfl rfl k (rfl) (by omega) (by decide) dX0_rub_38 ?_
    refine lv_istore (lv' := [(4, .int (B 1 k)), (0, .ref (a 0)), (1, .int (nI k)), (2, .int t), (3, .int f)]) hx hb dX0_rub_39 hl (by decide) rfl (fun ls hl => ?_)
    refine lv_aload_n hx hb dX0_rub_41 rfl (lv_at hl 1 rfl) ?_
    refine lv_iload hx hb dX0_rub_42 (lv_at hl 0 rfl) ?_
    refine lv_iload_n hx hb dX0_rub_44 rfl (lv_at hl 4 rfl) ?_
    refine gh_ci (va_runV (As := [.int (B 1 k), .int f]) (rest := []) ⟨hx, hb, hml, hown, hts⟩ (c_X0_hasAir l G a sc B (B 1 k) f) (cwV 2 hts gX0_rub_X0_hasAir rfl rfl rfl ⟨rfl, hdS_X0_hasAir⟩ ⟨Nat.le_of_ble_eq_true rfl, Nat.le_of_ble_eq_true rfl⟩) (gh_rV hE hP (ci := 0) (q0 := 0) rfl rfl) rfl rfl hl.1 rfl (lv_room (Nat.le_of_ble_eq_true rfl)) dX0_rub_45 ⟨Nat.le_of_ble_eq_true rfl, Nat.le_of_ble_eq_true rfl⟩) ?_
    refine lv_if_eq (tgt := 62) hx hb dX0_rub_48 (by decide) (fun c_4 => ?_) (fun c_4 => ?_)
    · skip
      exact J62 B (B 1 k) (by first | (simp only [gh_r2, ← EB, c_4, ↓reduceIte, if_true, if_false]; done) | (simp only [gh_r2, ← EB]; simp only [c_4, ↓reduceIte, if_true, if_false]; done)) _ _ hP hD hS _ (lv_sub hl [1, 2, 3, 4, 0] rfl)
    · skip
      refine lv_aload_n hx hb dX0_rub_51 rfl (lv_at hl 1 rfl) ?_
      refine va_get (D := G.1) (ci := 0) (v := .ref (a 8)) (C := RX0) (T := TX0) (N := 15) hx hb hts (fun w9 h9 => List.mem_cons_of_mem _ (List.mem_append_right _ h9)) hown hK hP 0 rfl rfl 8 (by decide) (hts (.fieldLink RX0 34 "GlassHarp$Orchestra" "air" "[I") (List.mem_of_getElem? (i := 4) rfl)) (fun _ h9 => h9) rfl dX0_rub_52 ?_
      refine lv_iload hx hb dX0_rub_55 (lv_at hl 0 rfl) ?_
      refine lv_dup2_11 hx hb dX0_rub_57 rfl rfl ?_
      refine va_iald (f := B 8) hx hb hK hP 8 0 rfl rfl (gh_ha_in c_4) dX0_rub_58 ?_
      refine lv_iload_n hx hb dX0_rub_59 rfl (lv_at hl 4 rfl) ?_
      refine lv_isub hx hb dX0_rub_60 ?_
      refine va_iast (f := B 8) hx hb hK hP hD hS 8 0 rfl rfl (gh_ha_in c_4) dX0_rub_61 (fun H locs hP hD hS => ?_)
      have hP : va_P G.1 vwCl (wO G a sc (gh_st B 8 (upd (B 8) (B 1 k).toNatClampNeg ((B 8 (B 1 k).toNatClampNeg) - f)))) H := hP
      have hD : va_D A (wO G a sc (gh_st B 8 (upd (B 8) (B 1 k).toNatClampNeg ((B 8 (B 1 k).toNatClampNeg) - f)))) := hD
      exact J62 (gh_st B 8 (upd (B 8) (B 1 k).toNatClampNeg ((B 8 (B 1 k).toNatClampNeg) - f))) (B 1 k) (by first | (simp only [gh_r2, ← EB, c_4, ↓reduceIte, if_true, if_false]; done) | (simp only [gh_r2, ← EB]; simp only [c_4, ↓reduceIte, if_true, if_false]; done)) _ _ hP hD hS _ (lv_sub hl [1, 2, 3, 4, 0] rfl)
  refine lv_aload_n hx hb dX0_rub_0 rfl (lv_at hl 0 rfl) ?_
  refine lv_dup hx hb dX0_rub_1 rfl ?_
  refine va_get (D := G.1) (ci := 0) (v := .int (o 12 0)) (C := RX0) (T := TX0) (N := 15) hx hb hts (fun w9 h9 => List.mem_cons_of_mem _ (List.mem_append_right _ h9)) hown hK hP 0 rfl rfl 12 (by decide) (hts (.fieldLink RX0 47 "GlassHarp$Orchestra" "played" "I") (List.mem_of_getElem? (i := 1) rfl)) (fun _ h9 => h9) rfl dX0_rub_2 ?_
  refine lv_iconst (v := 1) hx hb dX0_rub_5 (by decide) ?_
  refine lv_iadd hx hb dX0_rub_6 ?_
  refine va_put (D := G.1) (ci := 0) (v := .int ((o 12 0) + 1)) (ty := .int) (C := RX0) (T := TX0) (N := 15) hx hb hts (fun w9 h9 => List.mem_cons_of_mem _ (List.mem_append_right _ h9)) tyX0 tyX0_ok nmX0 hown hK hP hD hS 0 rfl rfl 12 (by decide) (hts (.fieldLink RX0 47 "GlassHarp$Orchestra" "played" "I") (List.mem_of_getElem? (i := 1) rfl)) (fun _ h9 => h9) rfl (tyX0_ok 12 (by decide)) rfl rfl (Nat.le_of_ble_eq_true rfl) dX0_rub_7 (fun H locs hP hD hS => ?_)
  have hP : va_P G.1 vwCl (wO G a sc (gh_st o 12 (fun _ => (o 12 0) + 1))) H := hP
  have hD : va_D A (wO G a sc (gh_st o 12 (fun _ => (o 12 0) + 1))) := hD
  refine lv_aload_n hx hb dX0_rub_10 rfl (lv_at hl 0 rfl) ?_
  refine lv_iload_n hx hb dX0_rub_11 rfl (lv_at hl 1 rfl) ?_
  refine gh_ci (va_runV (As := [.int (nI k)]) (rest := []) ⟨hx, hb, hml, hown, hts⟩ (c_X0_toneOf l G a sc (gh_st o 12 (fun _ => (o 12 0) + 1)) n k (hn) (hn16) (hk)) (cwV 1 hts gX0_rub_X0_toneOf rfl rfl rfl ⟨rfl, hdS_X0_toneOf⟩ ⟨Nat.le_of_ble_eq_true rfl, Nat.le_of_ble_eq_true rfl⟩) (gh_rV hE hP (ci := 0) (q0 := 0) rfl rfl) rfl rfl hl.1 rfl (lv_room (Nat.le_of_ble_eq_true rfl)) dX0_rub_12 ⟨Nat.le_of_ble_eq_true rfl, Nat.le_of_ble_eq_true rfl⟩) ?_
  refine lv_iload_n hx hb dX0_rub_15 rfl (lv_at hl 2 rfl) ?_
  refine gh_ci (va_runSN (As := [.int (gh_tn (gh_st o 12 (fun _ => (o 12 0) + 1)) k), .int t]) (rest := []) ⟨hx, hb, hml, hown, hts⟩ (c_X2_distance l G (gh_tn (gh_st o 12 (fun _ => (o 12 0) + 1)) k) t) ⟨va_cnB 2 hts gX0_rub_X2_distance_n94 rfl rfl rfl (hE.2.1 (RX0, 94, yX2_distance, RX2) (List.mem_of_getElem? (i := 5) rfl)) (hts (.initialized RX2) (List.mem_of_getElem? (i := 32) rfl)) hdS_X2_distance ⟨Nat.le_of_ble_eq_true rfl, Nat.le_of_ble_eq_true rfl⟩, (hts (.static yX2_distance) (List.mem_of_getElem? (i := 31) rfl)), trivial⟩ (gh_rS hE (fun k q h => by simp at h)) rfl rfl hl.1 rfl (lv_room (Nat.le_of_ble_eq_true rfl)) dX0_rub_16 ⟨Nat.le_of_ble_eq_true rfl, Nat.le_of_ble_eq_true rfl⟩) ?_
  refine lv_iconst (v := 1) hx hb dX0_rub_19 (by decide) ?_
  refine lv_icmp_gt (tgt := 33) hx hb dX0_rub_20 (by decide) (fun c_5 => ?_) (fun c_5 => ?_)
  · skip
    exact J33 (gh_st o 12 (fun _ => (o 12 0) + 1)) (by first | (simp only [gh_r1, c_5, ↓reduceIte, if_true, if_false]; done) | (simp only [gh_r1]; simp only [c_5, ↓reduceIte, if_true, if_false]; done)) _ _ hP hD hS _ (lv_sub hl [0, 1, 2, 3] rfl)
  · skip
    refine lv_aload_n hx hb dX0_rub_23 rfl (lv_at hl 0 rfl) ?_
    refine lv_dup hx hb dX0_rub_24 rfl ?_
    refine va_get (D := G.1) (ci := 0) (v := .int (o 13 0)) (C := RX0) (T := TX0) (N := 15) hx hb hts (fun w9 h9 => List.mem_cons_of_mem _ (List.mem_append_right _ h9)) hown hK hP 0 rfl rfl 13 (by decide) (hts (.fieldLink RX0 50 "GlassHarp$Orchestra" "inTune" "I") (List.mem_of_getElem? (i := 2) rfl)) (fun _ h9 => h9) rfl dX0_rub_25 ?_
    refine lv_iconst (v := 1) hx hb dX0_rub_28 (by decide) ?_
    refine lv_iadd hx hb dX0_rub_29 ?_
    refine va_put (D := G.1) (ci := 0) (v := .int ((o 13 0) + 1)) (ty := .int) (C := RX0) (T := TX0) (N := 15) hx hb hts (fun w9 h9 => List.mem_cons_of_mem _ (List.mem_append_right _ h9)) tyX0 tyX0_ok nmX0 hown hK hP hD hS 0 rfl rfl 13 (by decide) (hts (.fieldLink RX0 50 "GlassHarp$Orchestra" "inTune" "I") (List.mem_of_getElem? (i := 2) rfl)) (fun _ h9 => h9) rfl (tyX0_ok 13 (by decide)) rfl rfl (Nat.le_of_ble_eq_true rfl) dX0_rub_30 (fun H locs hP hD hS => ?_)
    have hP : va_P G.1 vwCl (wO G a sc (gh_st (gh_st o 12 (fun _ => (o 12 0) + 1)) 13 (fun _ => (o 13 0) + 1))) H := hP
    have hD : va_D A (wO G a sc (gh_st (gh_st o 12 (fun _ => (o 12 0) + 1)) 13 (fun _ => (o 13 0) + 1))) := hD
    exact J33 (gh_st (gh_st o 12 (fun _ => (o 12 0) + 1)) 13 (fun _ => (o 13 0) + 1)) (by first | (simp only [gh_r1, c_5, ↓reduceIte, if_true, if_false]; done) | (simp only [gh_r1]; simp only [c_5, ↓reduceIte, if_true, if_false]; done)) _ _ hP hD hS _ (lv_sub hl [0, 1, 2, 3] rfl)
set_option maxHeartbeats 4000000 in
set_option maxRecDepth 100000 in
theorem c_X0_playNotes (l : Launch) (G : gh_G) (sz : Nat) (a : Nat → Nat) (b : Nat → Nat) (o : gh_B) (z : gh_B) (n : Nat) (nn : Nat) (hn : o 10 0 = nI n) (hn16 : n ≤ 16) (hz : z 3 0 = nI nn) (hz32 : nn ≤ 32) : Met l yX0_playNotes wsX0_playNotes ({ frames := 3, cells := 0, slots := 0, locals := 70 } : Room) (gh_w G [.ref (a 0)] ((wO G a (b 5) o) ++ (wS G b z)) sz) (va_Qv (fun _ : Unit => True) (fun _ t9 => va_P G.1 vwCl ((wO G a (b 5) (gh_pn z o n nn)) ++ (wS G b z)) t9.heap) (va_A ((wO G a (b 5) o) ++ (wS G b z)) sz)) 0 0 (va_A ((wO G a (b 5) o) ++ (wS G b z)) sz) := by
  refine Met.ofW (cc := cX0_playNotes) (maxL := 4) (ret := none) (by decide) rfl ?_
  intro p e s m args below meth c s₁ B hml hv
  obtain ⟨rfl, hsz, hP, hE, hD0⟩ := hv
  have hx := B.exec
  have hb := B.bytes
  have hr := B.returns
  have hts := atoms_spec (ws := wsX0_playNotes) B.pre
  have hown : s.vm.findClass RX0 = some m.cls := findClass_of_methodNamed B.named
  have hlocks := B.notSynchronized
  have hK := hE.1
  subst hsz
  have hD := hD0.self (sz := s.heap.size)
  generalize hAe : va_A ((wO G a (b 5) o) ++ (wS G b z)) s.heap.size = A at hD ⊢
  have hA : ∀ q : Nat, s.heap.size ≤ q → A q := fun q h => by rw [← hAe]; exact Or.inr h
  have hS : va_S A s.heap s.heap [] := va_S.rf
  have hl := lv_entry ([.ref (a 0)]) (n := 4) (Nat.le_of_ble_eq_true rfl)
  rw [lg_entry_eq]
  generalize (lg_sl ([.ref (a 0)]) ++ List.replicate (4 - (lg_sl ([.ref (a 0)])).length) Slot.unset).toArray = ls at hl ⊢
  have hl : lv_has ls 4 [(0, .ref (a 0))] := hl
  refine lv_iconst (v := 0) hx hb dX0_playNotes_0 (by decide) ?_
  refine lv_istore_n (lv' := [(1, .int 0), (0, .ref (a 0))]) hx hb dX0_playNotes_1 rfl hl (by decide) rfl (fun ls hl => ?_)
  have J2 : ∀ (B : gh_B), B = gh_nb o 0 → B 10 0 = nI n → ∀ (H : Heap) (locs : List Loc), va_P G.1 vwCl ((wO G a (b 5) B) ++ (wS G b z)) H → va_D A ((wO G a (b 5) B) ++ (wS G b z)) → va_S A s.heap H locs → ∀ (ls : Array Slot), lv_has ls 4 [(0, .ref (a 0)), (1, .int (nI 0))] → W p l e (headSpec wsX0_playNotes ({ frames := 3, cells := 0, slots := 0, locals := 70 } : Room)).room s m ([.ref (a 0)] : List Value).toArray below meth c H locs 0 0 (MQ below (va_Qv (fun _ : Unit => True) (fun _ t9 => va_P G.1 vwCl ((wO G a (b 5) (gh_pn z o n nn)) ++ (wS G b z)) t9.heap) A) ([.ref (a 0)] : List Value).toArray s 0 0 A) (F0 m 2 ls []) := by
    refine gh_loop (n := n) (i0 := 0) (Nat.zero_le _) (P := fun i => ∀ (B : gh_B), B = gh_nb o i → B 10 0 = nI n → ∀ (H : Heap) (locs : List Loc), va_P G.1 vwCl ((wO G a (b 5) B) ++ (wS G b z)) H → va_D A ((wO G a (b 5) B) ++ (wS G b z)) → va_S A s.heap H locs → ∀ (ls : Array Slot), lv_has ls 4 [(0, .ref (a 0)), (1, .int (nI i))] → W p l e (headSpec wsX0_playNotes ({ frames := 3, cells := 0, slots := 0, locals := 70 } : Room)).room s m ([.ref (a 0)] : List Value).toArray below meth c H locs 0 0 (MQ below (va_Qv (fun _ : Unit => True) (fun _ t9 => va_P G.1 vwCl ((wO G a (b 5) (gh_pn z o n nn)) ++ (wS G b z)) t9.heap) A) ([.ref (a 0)] : List Value).toArray s 0 0 A) (F0 m 2 ls [])) ?_ ?_
    · skip
      intro B EB hB H locs hP hD hS ls hl
      refine lv_iload_n hx hb dX0_playNotes_2 rfl (lv_at hl 1 rfl) ?_
      refine lv_aload_n hx hb dX0_playNotes_3 rfl (lv_at hl 0 rfl) ?_
      refine va_get (D := G.1) (ci := 0) (v := .int (B 10 0)) (C := RX0) (T := TX0) (N := 15) hx hb hts (fun w9 h9 => List.mem_cons_of_mem _ (List.mem_append_left _ (List.mem_append_right _ h9))) hown hK hP 0 rfl rfl 10 (by decide) (hts (.fieldLink RX0 40 "GlassHarp$Orchestra" "glasses" "I") (List.mem_of_getElem? (i := 1) rfl)) (fun _ h9 => h9) rfl dX0_playNotes_4 ?_
      refine gh_vv (y := nI n) (hB) ?_
      refine lv_icmp_ge (tgt := 23) hx hb dX0_playNotes_7 (by decide) (fun c_1 => ?_) (fun c_1 => absurd (nI_le (Nat.le_refl _) (Nat.lt_of_le_of_lt hn16 (by decide))) c_1)
      refine lv_aload_n hx hb dX0_playNotes_23 rfl (lv_at hl 0 rfl) ?_
      refine va_get (D := G.1) (ci := 0) (v := .ref (b 5)) (C := RX0) (T := TX0) (N := 15) hx hb hts (fun w9 h9 => List.mem_cons_of_mem _ (List.mem_append_left _ (List.mem_append_right _ h9))) hown hK hP 0 rfl rfl 0 (by decide) (hts (.fieldLink RX0 56 "GlassHarp$Orchestra" "score" "LGlassHarp$Score;") (List.mem_of_getElem? (i := 3) rfl)) (fun _ h9 => h9) rfl dX0_playNotes_24 ?_
      refine lv_aload_n hx hb dX0_playNotes_27 rfl (lv_at hl 0 rfl) ?_
      refine va_get (D := G.1) (ci := 0) (v := .int (B 11 0)) (C := RX0) (T := TX0) (N := 15) hx hb hts (fun w9 h9 => List.mem_cons_of_mem _ (List.mem_append_left _ (List.mem_append_right _ h9))) hown hK hP 0 rfl rfl 11 (by decide) (hts (.fieldLink RX0 44 "GlassHarp$Orchestra" "beat" "I") (List.mem_of_getElem? (i := 4) rfl)) (fun _ h9 => h9) rfl dX0_playNotes_28 ?_
      refine gh_ci (va_runVN (As := [.int (B 11 0)]) (rest := []) ⟨hx, hb, hml, hown, hts⟩ (c_X1_beatAt l G b z (B 11 0)) ⟨va_cnB 1 hts gX0_playNotes_X1_beatAt_n115 rfl rfl rfl (hE.2.1 (RX0, 115, yX1_beatAt, RX2) (List.mem_of_getElem? (i := 17) rfl)) (hts (.initialized RX1) (List.mem_of_getElem? (i := 7) rfl)) hdS_X1_beatAt ⟨Nat.le_of_ble_eq_true rfl, Nat.le_of_ble_eq_true rfl⟩, (hts (.instanceMethod yX1_beatAt) (List.mem_of_getElem? (i := 6) rfl)), (hts (.selects RX1 yX1_beatAt yX1_beatAt) (List.mem_of_getElem? (i := 8) rfl))⟩ (gh_rV hE (hP.sub (ws' := wS G b z) [10, 11, 12, 13] rfl) (ci := 1) (q0 := 0) rfl rfl) rfl rfl hl.1 rfl (lv_room (Nat.le_of_ble_eq_true rfl)) dX0_playNotes_31 ⟨Nat.le_of_ble_eq_true rfl, Nat.le_of_ble_eq_true rfl⟩) ?_
      refine lv_istore_n (lv' := [(1, .int (gh_at z (B 11 0))), (0, .ref (a 0))]) hx hb dX0_playNotes_34 rfl hl (by decide) rfl (fun ls hl => ?_)
      refine lv_iconst (v := 0) hx hb dX0_playNotes_35 (by decide) ?_
      refine lv_istore_n (lv' := [(2, .int 0), (1, .int (gh_at z (B 11 0))), (0, .ref (a 0))]) hx hb dX0_playNotes_36 rfl hl (by decide) rfl (fun ls hl => ?_)
      have J37 : ∀ (C : gh_B), C = gh_ns z B n (gh_at z (B 11 0)) 0 → C 10 0 = nI n → ∀ (H : Heap) (locs : List Loc), va_P G.1 vwCl ((wO G a (b 5) C) ++ (wS G b z)) H → va_D A ((wO G a (b 5) C) ++ (wS G b z)) → va_S A s.heap H locs → ∀ (ls : Array Slot), lv_has ls 4 [(0, .ref (a 0)), (1, .int (gh_at z (B 11 0))), (2, .int (nI 0))] → W p l e (headSpec wsX0_playNotes ({ frames := 3, cells := 0, slots := 0, locals := 70 } : Room)).room s m ([.ref (a 0)] : List Value).toArray below meth c H locs 0 0 (MQ below (va_Qv (fun _ : Unit => True) (fun _ t9 => va_P G.1 vwCl ((wO G a (b 5) (gh_pn z o n nn)) ++ (wS G b z)) t9.heap) A) ([.ref (a 0)] : List Value).toArray s 0 0 A) (F0 m 37 ls []) := by
        refine gh_loop (n := nn) (i0 := 0) (Nat.zero_le _) (P := fun i => ∀ (C : gh_B), C = gh_ns z B n (gh_at z (B 11 0)) i → C 10 0 = nI n → ∀ (H : Heap) (locs : List Loc), va_P G.1 vwCl ((wO G a (b 5) C) ++ (wS G b z)) H → va_D A ((wO G a (b 5) C) ++ (wS G b z)) → va_S A s.heap H locs → ∀ (ls : Array Slot), lv_has ls 4 [(0, .ref (a 0)), (1, .int (gh_at z (B 11 0))), (2, .int (nI i))] → W p l e (headSpec wsX0_playNotes ({ frames := 3, cells := 0, slots := 0, locals := 70 } : Room)).room s m ([.ref (a 0)] : List Value).toArray below meth c H locs 0 0 (MQ below (va_Qv (fun _ : Unit => True) (fun _ t9 => va_P G.1 vwCl ((wO G a (b 5) (gh_pn z o n nn)) ++ (wS G b z)) t9.heap) A) ([.ref (a 0)] : List Value).toArray s 0 0 A) (F0 m 37 ls [])) ?_ ?_
        · skip
          intro C EC hC H locs hP hD hS ls hl
          refine lv_iload_n hx hb dX0_playNotes_37 rfl (lv_at hl 2 rfl) ?_
          refine lv_aload_n hx hb dX0_playNotes_38 rfl (lv_at hl 0 rfl) ?_
          refine va_get (D := G.1) (ci := 0) (v := .ref (b 5)) (C := RX0) (T := TX0) (N := 15) hx hb hts (fun w9 h9 => List.mem_cons_of_mem _ (List.mem_append_left _ (List.mem_append_right _ h9))) hown hK hP 0 rfl rfl 0 (by decide) (hts (.fieldLink RX0 56 "GlassHarp$Orchestra" "score" "LGlassHarp$Score;") (List.mem_of_getElem? (i := 3) rfl)) (fun _ h9 => h9) rfl dX0_playNotes_39 ?_
          refine va_getN (D := G.1) (ci := 1) (v := .int (z 3 0)) (C := RX1) (T := TX1) (N := 5) hx hb hts (fun w9 h9 => List.mem_cons_of_mem _ (List.mem_append_right _ h9)) hown hK hP 10 rfl rfl 3 (by decide) (va_Nw.use rfl (hE.2.2 (RX0, 120, "GlassHarp$Score", "notes", "I", RX2) (List.mem_of_getElem? (i := 7) rfl))) (fun _ h9 => h9) rfl dX0_playNotes_42 ?_
          refine gh_vv (y := nI nn) (hz) ?_
          refine lv_icmp_ge (tgt := 134) hx hb dX0_playNotes_45 (by decide) (fun c_2 => ?_) (fun c_2 => absurd (nI_le (Nat.le_refl _) (Nat.lt_of_le_of_lt hz32 (by decide))) c_2)
          have hP9 : va_P G.1 vwCl ((wO G a (b 5) (gh_pn z o n nn)) ++ (wS G b z)) H := by
            have e9 : C = gh_pn z o n nn := by first | (simp only [gh_pn, ← EB, ← EC, c_2, ↓reduceIte, if_true, if_false]; done) | (simp only [gh_pn, ← EB, ← EC]; simp only [c_2, ↓reduceIte, if_true, if_false]; done)
            rw [← e9]
            exact hP
          exact W.vret hx hb hr (fun t9 ht hW => ⟨⟨(), rfl, trivial, gh_hp hP9 ht⟩, hS.F ht⟩) hS.2.2 dX0_playNotes_134
        · intro i hi_lo hi ih
          intro C EC hC H locs hP hD hS ls hl
          refine lv_iload_n hx hb dX0_playNotes_37 rfl (lv_at hl 2 rfl) ?_
          refine lv_aload_n hx hb dX0_playNotes_38 rfl (lv_at hl 0 rfl) ?_
          refine va_get (D := G.1) (ci := 0) (v := .ref (b 5)) (C := RX0) (T := TX0) (N := 15) hx hb hts (fun w9 h9 => List.mem_cons_of_mem _ (List.mem_append_left _ (List.mem_append_right _ h9))) hown hK hP 0 rfl rfl 0 (by decide) (hts (.fieldLink RX0 56 "GlassHarp$Orchestra" "score" "LGlassHarp$Score;") (List.mem_of_getElem? (i := 3) rfl)) (fun _ h9 => h9) rfl dX0_playNotes_39 ?_
          refine va_getN (D := G.1) (ci := 1) (v := .int (z 3 0)) (C := RX1) (T := TX1) (N := 5) hx hb hts (fun w9 h9 => List.mem_cons_of_mem _ (List.mem_append_right _ h9)) hown hK hP 10 rfl rfl 3 (by decide) (va_Nw.use rfl (hE.2.2 (RX0, 120, "GlassHarp$Score", "notes", "I", RX2) (List.mem_of_getElem? (i := 7) rfl))) (fun _ h9 => h9) rfl dX0_playNotes_42 ?_
          refine gh_vv (y := nI nn) (hz) ?_
          refine lv_icmp_ge (tgt := 134) hx hb dX0_playNotes_45 (by decide) (fun c_3 => absurd c_3 (nI_ge hi (Nat.lt_of_le_of_lt hz32 (by decide)))) (fun c_3 => ?_)
          refine lv_aload_n hx hb dX0_playNotes_48 rfl (lv_at hl 0 rfl) ?_
          refine va_get (D := G.1) (ci := 0) (v := .ref (b 5)) (C := RX0) (T := TX0) (N := 15) hx hb hts (fun w9 h9 => List.mem_cons_of_mem _ (List.mem_append_left _ (List.mem_append_right _ h9))) hown hK hP 0 rfl rfl 0 (by decide) (hts (.fieldLink RX0 56 "GlassHarp$Orchestra" "score" "LGlassHarp$Score;") (List.mem_of_getElem? (i := 3) rfl)) (fun _ h9 => h9) rfl dX0_playNotes_49 ?_
          refine va_getN (D := G.1) (ci := 1) (v := .ref (b 0)) (C := RX1) (T := TX1) (N := 5) hx hb hts (fun w9 h9 => List.mem_cons_of_mem _ (List.mem_append_right _ h9)) hown hK hP 10 rfl rfl 0 (by decide) (va_Nw.use rfl (hE.2.2 (RX0, 123, "GlassHarp$Score", "beats", "[I", RX2) (List.mem_of_getElem? (i := 1) rfl))) (fun _ h9 => h9) rfl dX0_playNotes_52 ?_
          refine lv_iload_n hx hb dX0_playNotes_55 rfl (lv_at hl 2 rfl) ?_
          refine gh_ia (f := z 0) hx hb hK hP 11 0 rfl rfl i (rfl) (by omega) (by decide) dX0_playNotes_56 ?_
          refine lv_iload_n hx hb dX0_playNotes_57 rfl (lv_at hl 1 rfl) ?_
          refine lv_icmp_ne (tgt := 128) hx hb dX0_playNotes_58 (by decide) (fun c_4 => ?_) (fun c_4 => ?_)
          · skip
            refine lv_iinc (v := nI (i + 1)) (lv' := [(2, .int (nI (i + 1))), (0, .ref (a 0)), (1, .int (gh_at z (B 11 0)))]) hx hb dX0_playNotes_128 hl (k := 2) rfl (nI_1 i) (by decide) rfl (fun ls hl => ?_)
            refine lv_goto (tgt := 37) hx hb dX0_playNotes_131 (by decide) ?_
            exact ih C (by first | (simp only [gh_ns, gh_nt, ← EB, ← EC, c_3, c_4, ↓reduceIte, if_true, if_false]; done) | (simp only [gh_ns, gh_nt, ← EB, ← EC]; simp only [c_3, c_4, ↓reduceIte, if_true, if_false]; done)) (hC) _ _ hP hD hS _ (lv_sub hl [1, 2, 0] rfl)
          · skip
            refine lv_aload_n hx hb dX0_playNotes_61 rfl (lv_at hl 0 rfl) ?_
            refine lv_aload_n hx hb dX0_playNotes_62 rfl (lv_at hl 0 rfl) ?_
            refine va_get (D := G.1) (ci := 0) (v := .ref (b 5)) (C := RX0) (T := TX0) (N := 15) hx hb hts (fun w9 h9 => List.mem_cons_of_mem _ (List.mem_append_left _ (List.mem_append_right _ h9))) hown hK hP 0 rfl rfl 0 (by decide) (hts (.fieldLink RX0 56 "GlassHarp$Orchestra" "score" "LGlassHarp$Score;") (List.mem_of_getElem? (i := 3) rfl)) (fun _ h9 => h9) rfl dX0_playNotes_63 ?_
            refine va_getN (D := G.1) (ci := 1) (v := .ref (b 1)) (C := RX1) (T := TX1) (N := 5) hx hb hts (fun w9 h9 => List.mem_cons_of_mem _ (List.mem_append_right _ h9)) hown hK hP 10 rfl rfl 1 (by decide) (va_Nw.use rfl (hE.2.2 (RX0, 126, "GlassHarp$Score", "tones", "[I", RX2) (List.mem_of_getElem? (i := 3) rfl))) (fun _ h9 => h9) rfl dX0_playNotes_66 ?_
            refine lv_iload_n hx hb dX0_playNotes_69 rfl (lv_at hl 2 rfl) ?_
            refine gh_ia (f := z 1) hx hb hK hP 12 0 rfl rfl i (rfl) (by omega) (by decide) dX0_playNotes_70 ?_
            refine lv_aload_n hx hb dX0_playNotes_71 rfl (lv_at hl 0 rfl) ?_
            refine va_get (D := G.1) (ci := 0) (v := .ref (b 5)) (C := RX0) (T := TX0) (N := 15) hx hb hts (fun w9 h9 => List.mem_cons_of_mem _ (List.mem_append_left _ (List.mem_append_right _ h9))) hown hK hP 0 rfl rfl 0 (by decide) (hts (.fieldLink RX0 56 "GlassHarp$Orchestra" "score" "LGlassHarp$Score;") (List.mem_of_getElem? (i := 3) rfl)) (fun _ h9 => h9) rfl dX0_playNotes_72 ?_
            refine va_getN (D := G.1) (ci := 1) (v := .ref (b 2)) (C := RX1) (T := TX1) (N := 5) hx hb hts (fun w9 h9 => List.mem_cons_of_mem _ (List.mem_append_right _ h9)) hown hK hP 10 rfl rfl 2 (by decide) (va_Nw.use rfl (hE.2.2 (RX0, 129, "GlassHarp$Score", "forces", "[I", RX2) (List.mem_of_getElem? (i := 5) rfl))) (fun _ h9 => h9) rfl dX0_playNotes_75 ?_
            refine lv_iload_n hx hb dX0_playNotes_78 rfl (lv_at hl 2 rfl) ?_
            refine gh_ia (f := z 2) hx hb hK hP 13 0 rfl rfl i (rfl) (by omega) (by decide) dX0_playNotes_79 ?_
            refine gh_ci (va_runV (As := [.int (z 1 i), .int (z 2 i)]) (rest := []) ⟨hx, hb, hml, hown, hts⟩ (c_X0_playerFor l G a (b 5) C n (z 1 i) (z 2 i) (hC) (hn16)) (cwV 2 hts gX0_playNotes_X0_playerFor rfl rfl rfl ⟨rfl, hdS_X0_playerFor⟩ ⟨Nat.le_of_ble_eq_true rfl, Nat.le_of_ble_eq_true rfl⟩) (gh_rV hE (hP.sub (ws' := wO G a (b 5) C) [0, 1, 2, 3, 4, 5, 6, 7, 8, 9] rfl) (ci := 0) (q0 := 0) rfl rfl) rfl rfl hl.1 rfl (lv_room (Nat.le_of_ble_eq_true rfl)) dX0_playNotes_80 ⟨Nat.le_of_ble_eq_true rfl, Nat.le_of_ble_eq_true rfl⟩) ?_
            refine lv_istore_n (lv' := [(3, .int ((gh_pf C (z 1 i) (z 2 i) n).1)), (0, .ref (a 0)), (1, .int (gh_at z (B 11 0))), (2, .int (nI i))]) hx hb dX0_playNotes_83 rfl hl (by decide) rfl (fun ls hl => ?_)
            refine lv_aload_n hx hb dX0_playNotes_84 rfl (lv_at hl 1 rfl) ?_
            refine lv_iload_n hx hb dX0_playNotes_85 rfl (lv_at hl 0 rfl) ?_
            refine gh_ci (va_runV (As := [.int ((gh_pf C (z 1 i) (z 2 i) n).1)]) (rest := []) ⟨hx, hb, hml, hown, hts⟩ (c_X0_hasGlass l G a (b 5) C ((gh_pf C (z 1 i) (z 2 i) n).1)) (cwV 1 hts gX0_playNotes_X0_hasGlass rfl rfl rfl ⟨rfl, hdS_X0_hasGlass⟩ ⟨Nat.le_of_ble_eq_true rfl, Nat.le_of_ble_eq_true rfl⟩) (gh_rV hE (hP.sub (ws' := wO G a (b 5) C) [0, 1, 2, 3, 4, 5, 6, 7, 8, 9] rfl) (ci := 0) (q0 := 0) rfl rfl) rfl rfl hl.1 rfl (lv_room (Nat.le_of_ble_eq_true rfl)) dX0_playNotes_86 ⟨Nat.le_of_ble_eq_true rfl, Nat.le_of_ble_eq_true rfl⟩) ?_
            refine lv_if_eq (tgt := 118) hx hb dX0_playNotes_89 (by decide) (fun c_5 => ?_) (fun c_5 => ?_)
            · skip
              refine lv_aload_n hx hb dX0_playNotes_118 rfl (lv_at hl 1 rfl) ?_
              refine lv_dup hx hb dX0_playNotes_119 rfl ?_
              refine va_get (D := G.1) (ci := 0) (v := .int (C 14 0)) (C := RX0) (T := TX0) (N := 15) hx hb hts (fun w9 h9 => List.mem_cons_of_mem _ (List.mem_append_left _ (List.mem_append_right _ h9))) hown hK hP 0 rfl rfl 14 (by decide) (hts (.fieldLink RX0 53 "GlassHarp$Orchestra" "missed" "I") (List.mem_of_getElem? (i := 5) rfl)) (fun _ h9 => h9) rfl dX0_playNotes_120 ?_
              refine lv_iconst (v := 1) hx hb dX0_playNotes_123 (by decide) ?_
              refine lv_iadd hx hb dX0_playNotes_124 ?_
              refine va_put (D := G.1) (ci := 0) (v := .int ((C 14 0) + 1)) (ty := .int) (C := RX0) (T := TX0) (N := 15) hx hb hts (fun w9 h9 => List.mem_cons_of_mem _ (List.mem_append_left _ (List.mem_append_right _ h9))) tyX0 tyX0_ok nmX0 hown hK hP hD hS 0 rfl rfl 14 (by decide) (hts (.fieldLink RX0 53 "GlassHarp$Orchestra" "missed" "I") (List.mem_of_getElem? (i := 5) rfl)) (fun _ h9 => h9) rfl (tyX0_ok 14 (by decide)) rfl rfl (Nat.le_of_ble_eq_true rfl) dX0_playNotes_125 (fun H locs hP hD hS => ?_)
              have hP : va_P G.1 vwCl ((wO G a (b 5) (gh_st C 14 (fun _ => (C 14 0) + 1))) ++ (wS G b z)) H := hP
              have hD : va_D A ((wO G a (b 5) (gh_st C 14 (fun _ => (C 14 0) + 1))) ++ (wS G b z)) := hD
              refine lv_iinc (v := nI (i + 1)) (lv' := [(2, .int (nI (i + 1))), (3, .int ((gh_pf C (z 1 i) (z 2 i) n).1)), (0, .ref (a 0)), (1, .int (gh_at z (B 11 0)))]) hx hb dX0_playNotes_128 hl (k := 3) rfl (nI_1 i) (by decide) rfl (fun ls hl => ?_)
              refine lv_goto (tgt := 37) hx hb dX0_playNotes_131 (by decide) ?_
              exact ih (gh_st C 14 (fun _ => (C 14 0) + 1)) (by first | (simp only [gh_ns, gh_nt, ← EB, ← EC, c_3, c_4, c_5, ↓reduceIte, if_true, if_false]; done) | (simp only [gh_ns, gh_nt, ← EB, ← EC]; simp only [c_3, c_4, c_5, ↓reduceIte, if_true, if_false]; done)) (hC) _ _ hP hD hS _ (lv_sub hl [2, 3, 0] rfl)
            · skip
              obtain ⟨k5, hk5, ek5⟩ := gh_rg_k c_5 hC (Nat.lt_of_le_of_lt hn16 (by decide))
              refine lv_aload_n hx hb dX0_playNotes_92 rfl (lv_at hl 1 rfl) ?_
              refine lv_iload_n hx hb dX0_playNotes_93 rfl (lv_at hl 0 rfl) ?_
              refine gh_vv (y := nI k5) (ek5) ?_
              refine lv_aload_n hx hb dX0_playNotes_94 rfl (lv_at hl 1 rfl) ?_
              refine va_get (D := G.1) (ci := 0) (v := .ref (b 5)) (C := RX0) (T := TX0) (N := 15) hx hb hts (fun w9 h9 => List.mem_cons_of_mem _ (List.mem_append_left _ (List.mem_append_right _ h9))) hown hK hP 0 rfl rfl 0 (by decide) (hts (.fieldLink RX0 56 "GlassHarp$Orchestra" "score" "LGlassHarp$Score;") (List.mem_of_getElem? (i := 3) rfl)) (fun _ h9 => h9) rfl dX0_playNotes_95 ?_
              refine va_getN (D := G.1) (ci := 1) (v := .ref (b 1)) (C := RX1) (T := TX1) (N := 5) hx hb hts (fun w9 h9 => List.mem_cons_of_mem _ (List.mem_append_right _ h9)) hown hK hP 10 rfl rfl 1 (by decide) (va_Nw.use rfl (hE.2.2 (RX0, 126, "GlassHarp$Score", "tones", "[I", RX2) (List.mem_of_getElem? (i := 3) rfl))) (fun _ h9 => h9) rfl dX0_playNotes_98 ?_
              refine lv_iload_n hx hb dX0_playNotes_101 rfl (lv_at hl 3 rfl) ?_
              refine gh_ia (f := z 1) hx hb hK hP 12 0 rfl rfl i (rfl) (by omega) (by decide) dX0_playNotes_102 ?_
              refine lv_aload_n hx hb dX0_playNotes_103 rfl (lv_at hl 1 rfl) ?_
              refine va_get (D := G.1) (ci := 0) (v := .ref (b 5)) (C := RX0) (T := TX0) (N := 15) hx hb hts (fun w9 h9 => List.mem_cons_of_mem _ (List.mem_append_left _ (List.mem_append_right _ h9))) hown hK hP 0 rfl rfl 0 (by decide) (hts (.fieldLink RX0 56 "GlassHarp$Orchestra" "score" "LGlassHarp$Score;") (List.mem_of_getElem? (i := 3) rfl)) (fun _ h9 => h9) rfl dX0_playNotes_104 ?_
              refine va_getN (D := G.1) (ci := 1) (v := .ref (b 2)) (C := RX1) (T := TX1) (N := 5) hx hb hts (fun w9 h9 => List.mem_cons_of_mem _ (List.mem_append_right _ h9)) hown hK hP 10 rfl rfl 2 (by decide) (va_Nw.use rfl (hE.2.2 (RX0, 129, "GlassHarp$Score", "forces", "[I", RX2) (List.mem_of_getElem? (i := 5) rfl))) (fun _ h9 => h9) rfl dX0_playNotes_107 ?_
              refine lv_iload_n hx hb dX0_playNotes_110 rfl (lv_at hl 3 rfl) ?_
              refine gh_ia (f := z 2) hx hb hK hP 13 0 rfl rfl i (rfl) (by omega) (by decide) dX0_playNotes_111 ?_
              refine gh_cv (wr := wS G b z) (ws' := (wO G a (b 5) (gh_rub C k5 (z 1 i) (z 2 i))) ++ (wS G b z)) (va_runV (As := [.int (nI k5), .int (z 1 i), .int (z 2 i)]) (rest := []) ⟨hx, hb, hml, hown, hts⟩ (c_X0_rub l G H.size a (b 5) C n k5 (z 1 i) (z 2 i) (hC) (hn16) (hk5)) (cwV 3 hts gX0_playNotes_X0_rub rfl rfl rfl ⟨rfl, hdS_X0_rub⟩ ⟨Nat.le_of_ble_eq_true rfl, Nat.le_of_ble_eq_true rfl⟩) (gh_wV hE (hP.sub (ws' := wO G a (b 5) C) [0, 1, 2, 3, 4, 5, 6, 7, 8, 9] rfl) (hD.sub (ws' := wO G a (b 5) C) [0, 1, 2, 3, 4, 5, 6, 7, 8, 9] (by decide) rfl) (ci := 0) (q0 := 0) rfl rfl) rfl rfl hl.1 rfl (lv_room (Nat.le_of_ble_eq_true rfl)) dX0_playNotes_112 ⟨Nat.le_of_ble_eq_true rfl, Nat.le_of_ble_eq_true rfl⟩) hP hD hS hA [0, 1, 2, 3, 4, 5, 6, 7, 8, 9] [10, 11, 12, 13] [4, 5, 6, 7, 8, 9, 10, 11, 12, 13, 0, 1, 2, 3] rfl rfl (by decide) (by decide) (by decide) [a 0, a 1, a 2, a 3, a 4, a 5, a 6, a 7, a 8, a 9] [a 0, a 1, a 2, a 3, a 4, a 5, a 6, a 7, a 8, a 9, b 5, b 0, b 1, b 2] rfl rfl rfl rfl rfl (fun H locs hP hD hS => ?_)
              refine lv_goto (tgt := 128) hx hb dX0_playNotes_115 (by decide) ?_
              refine lv_iinc (v := nI (i + 1)) (lv' := [(2, .int (nI (i + 1))), (3, .int ((gh_pf C (z 1 i) (z 2 i) n).1)), (0, .ref (a 0)), (1, .int (gh_at z (B 11 0)))]) hx hb dX0_playNotes_128 hl (k := 3) rfl (nI_1 i) (by decide) rfl (fun ls hl => ?_)
              refine lv_goto (tgt := 37) hx hb dX0_playNotes_131 (by decide) ?_
              exact ih (gh_rub C k5 (z 1 i) (z 2 i)) (gh_ns_p EC c_4 c_5 ek5 (Nat.lt_of_lt_of_le (Nat.lt_trans hk5 (Nat.lt_of_le_of_lt hn16 (by decide))) (Nat.le_refl _))) (by rw [gh_rub_10]; exact hC) _ _ hP hD hS _ (lv_sub hl [2, 3, 0] rfl)
      exact J37 B (rfl) (hB) _ _ hP hD hS _ (lv_sub hl [2, 1, 0] rfl)
    · intro i hi_lo hi ih
      intro B EB hB H locs hP hD hS ls hl
      refine lv_iload_n hx hb dX0_playNotes_2 rfl (lv_at hl 1 rfl) ?_
      refine lv_aload_n hx hb dX0_playNotes_3 rfl (lv_at hl 0 rfl) ?_
      refine va_get (D := G.1) (ci := 0) (v := .int (B 10 0)) (C := RX0) (T := TX0) (N := 15) hx hb hts (fun w9 h9 => List.mem_cons_of_mem _ (List.mem_append_left _ (List.mem_append_right _ h9))) hown hK hP 0 rfl rfl 10 (by decide) (hts (.fieldLink RX0 40 "GlassHarp$Orchestra" "glasses" "I") (List.mem_of_getElem? (i := 1) rfl)) (fun _ h9 => h9) rfl dX0_playNotes_4 ?_
      refine gh_vv (y := nI n) (hB) ?_
      refine lv_icmp_ge (tgt := 23) hx hb dX0_playNotes_7 (by decide) (fun c_6 => absurd c_6 (nI_ge hi (Nat.lt_of_le_of_lt hn16 (by decide)))) (fun c_6 => ?_)
      refine lv_aload_n hx hb dX0_playNotes_10 rfl (lv_at hl 0 rfl) ?_
      refine va_get (D := G.1) (ci := 0) (v := .ref (a 7)) (C := RX0) (T := TX0) (N := 15) hx hb hts (fun w9 h9 => List.mem_cons_of_mem _ (List.mem_append_left _ (List.mem_append_right _ h9))) hown hK hP 0 rfl rfl 7 (by decide) (hts (.fieldLink RX0 31 "GlassHarp$Orchestra" "busy" "[Z") (List.mem_of_getElem? (i := 2) rfl)) (fun _ h9 => h9) rfl dX0_playNotes_11 ?_
      refine lv_iload_n hx hb dX0_playNotes_14 rfl (lv_at hl 1 rfl) ?_
      refine lv_iconst (v := 0) hx hb dX0_playNotes_15 (by decide) ?_
      refine gh_zs (f := B 7) (ws' := (wO G a (b 5) (gh_st B 7 (upd (B 7) i 0))) ++ (wS G b z)) hx hb hK hP hD hS 7 1 rfl rfl i (rfl) (by omega) (by decide) dX0_playNotes_16 (by decide) rfl (fun H locs hP hD hS => ?_)
      refine lv_iinc (v := nI (i + 1)) (lv' := [(1, .int (nI (i + 1))), (0, .ref (a 0))]) hx hb dX0_playNotes_17 hl (k := 1) rfl (nI_1 i) (by decide) rfl (fun ls hl => ?_)
      refine lv_goto (tgt := 2) hx hb dX0_playNotes_20 (by decide) ?_
      exact ih (gh_st B 7 (upd (B 7) i 0)) (by first | (simp only [gh_nb, ← EB, c_6, ↓reduceIte, if_true, if_false]; done) | (simp only [gh_nb, ← EB]; simp only [c_6, ↓reduceIte, if_true, if_false]; done)) (hB) _ _ hP hD hS _ (lv_sub hl [1, 0] rfl)
  exact J2 o (by first | (simp only [gh_nb, ↓reduceIte, if_true, if_false]; done) | (simp only [gh_nb, ↓reduceIte, if_true, if_false]; rfl)) (hn) _ _ hP hD hS _ (lv_sub hl [1, 0] rfl)
set_option maxHeartbeats 4000000 in
set_option maxRecDepth 100000 in
theorem c_X0_fadeAndDry (l : Launch) (G : gh_G) (sz : Nat) (a : Nat → Nat) (sc : Nat) (o : gh_B) (n : Nat) (hn : o 10 0 = nI n) (hn16 : n ≤ 16) : Met l yX0_fadeAndDry wsX0_fadeAndDry ({ frames := 1, cells := 0, slots := 0, locals := 21 } : Room) (gh_w G [.ref (a 0)] (wO G a sc o) sz) (va_Qv (fun _ : Unit => True) (fun _ t9 => va_P G.1 vwCl (wO G a sc (gh_fd (gh_dr (o 11 0)) o n)) t9.heap) (va_A (wO G a sc o) sz)) 0 0 (va_A (wO G a sc o) sz) := by
  refine Met.ofW (cc := cX0_fadeAndDry) (maxL := 3) (ret := none) (by decide) rfl ?_
  intro p e s m args below meth c s₁ B hml hv
  obtain ⟨rfl, hsz, hP, hE, hD0⟩ := hv
  have hx := B.exec
  have hb := B.bytes
  have hr := B.returns
  have hts := atoms_spec (ws := wsX0_fadeAndDry) B.pre
  have hown : s.vm.findClass RX0 = some m.cls := findClass_of_methodNamed B.named
  have hlocks := B.notSynchronized
  have hK := hE.1
  subst hsz
  have hD := hD0.self (sz := s.heap.size)
  generalize hAe : va_A (wO G a sc o) s.heap.size = A at hD ⊢
  have hA : ∀ q : Nat, s.heap.size ≤ q → A q := fun q h => by rw [← hAe]; exact Or.inr h
  have hS : va_S A s.heap s.heap [] := va_S.rf
  have hl := lv_entry ([.ref (a 0)]) (n := 3) (Nat.le_of_ble_eq_true rfl)
  rw [lg_entry_eq]
  generalize (lg_sl ([.ref (a 0)]) ++ List.replicate (3 - (lg_sl ([.ref (a 0)])).length) Slot.unset).toArray = ls at hl ⊢
  have hl : lv_has ls 3 [(0, .ref (a 0))] := hl
  have J15 : ∀ (x1 : Int32), x1 = gh_dr (o 11 0) → ∀ (H : Heap) (locs : List Loc), va_P G.1 vwCl (wO G a sc o) H → va_D A (wO G a sc o) → va_S A s.heap H locs → ∀ (ls : Array Slot), lv_has ls 3 [(0, .ref (a 0))] → W p l e (headSpec wsX0_fadeAndDry ({ frames := 1, cells := 0, slots := 0, locals := 21 } : Room)).room s m ([.ref (a 0)] : List Value).toArray below meth c H locs 0 0 (MQ below (va_Qv (fun _ : Unit => True) (fun _ t9 => va_P G.1 vwCl (wO G a sc (gh_fd (gh_dr (o 11 0)) o n)) t9.heap) A) ([.ref (a 0)] : List Value).toArray s 0 0 A) (F0 m 15 ls [.int x1]) := by
    intro x1 e1 H locs hP hD hS ls hl
    subst e1
    refine lv_istore_n (lv' := [(1, .int (gh_dr (o 11 0))), (0, .ref (a 0))]) hx hb dX0_fadeAndDry_15 rfl hl (by decide) rfl (fun ls hl => ?_)
    refine lv_iconst (v := 0) hx hb dX0_fadeAndDry_16 (by decide) ?_
    refine lv_istore_n (lv' := [(2, .int 0), (1, .int (gh_dr (o 11 0))), (0, .ref (a 0))]) hx hb dX0_fadeAndDry_17 rfl hl (by decide) rfl (fun ls hl => ?_)
    have J18 : ∀ (B : gh_B), B = gh_fd (gh_dr (o 11 0)) o 0 → B 10 0 = nI n → ∀ (H : Heap) (locs : List Loc), va_P G.1 vwCl (wO G a sc B) H → va_D A (wO G a sc B) → va_S A s.heap H locs → ∀ (ls : Array Slot), lv_has ls 3 [(0, .ref (a 0)), (1, .int (gh_dr (o 11 0))), (2, .int (nI 0))] → W p l e (headSpec wsX0_fadeAndDry ({ frames := 1, cells := 0, slots := 0, locals := 21 } : Room)).room s m ([.ref (a 0)] : List Value).toArray below meth c H locs 0 0 (MQ below (va_Qv (fun _ : Unit => True) (fun _ t9 => va_P G.1 vwCl (wO G a sc (gh_fd (gh_dr (o 11 0)) o n)) t9.heap) A) ([.ref (a 0)] : List Value).toArray s 0 0 A) (F0 m 18 ls []) := by
      refine gh_loop (n := n) (i0 := 0) (Nat.zero_le _) (P := fun i => ∀ (B : gh_B), B = gh_fd (gh_dr (o 11 0)) o i → B 10 0 = nI n → ∀ (H : Heap) (locs : List Loc), va_P G.1 vwCl (wO G a sc B) H → va_D A (wO G a sc B) → va_S A s.heap H locs → ∀ (ls : Array Slot), lv_has ls 3 [(0, .ref (a 0)), (1, .int (gh_dr (o 11 0))), (2, .int (nI i))] → W p l e (headSpec wsX0_fadeAndDry ({ frames := 1, cells := 0, slots := 0, locals := 21 } : Room)).room s m ([.ref (a 0)] : List Value).toArray below meth c H locs 0 0 (MQ below (va_Qv (fun _ : Unit => True) (fun _ t9 => va_P G.1 vwCl (wO G a sc (gh_fd (gh_dr (o 11 0)) o n)) t9.heap) A) ([.ref (a 0)] : List Value).toArray s 0 0 A) (F0 m 18 ls [])) ?_ ?_
      · skip
        intro B EB hB H locs hP hD hS ls hl
        refine lv_iload_n hx hb dX0_fadeAndDry_18 rfl (lv_at hl 2 rfl) ?_
        refine lv_aload_n hx hb dX0_fadeAndDry_19 rfl (lv_at hl 0 rfl) ?_
        refine va_get (D := G.1) (ci := 0) (v := .int (B 10 0)) (C := RX0) (T := TX0) (N := 15) hx hb hts (fun w9 h9 => List.mem_cons_of_mem _ (List.mem_append_right _ h9)) hown hK hP 0 rfl rfl 10 (by decide) (hts (.fieldLink RX0 40 "GlassHarp$Orchestra" "glasses" "I") (List.mem_of_getElem? (i := 2) rfl)) (fun _ h9 => h9) rfl dX0_fadeAndDry_20 ?_
        refine gh_vv (y := nI n) (hB) ?_
        refine lv_icmp_ge (tgt := 81) hx hb dX0_fadeAndDry_23 (by decide) (fun c_2 => ?_) (fun c_2 => absurd (nI_le (Nat.le_refl _) (Nat.lt_of_le_of_lt hn16 (by decide))) c_2)
        have hP9 : va_P G.1 vwCl (wO G a sc (gh_fd (gh_dr (o 11 0)) o n)) H := by
          have e9 : B = gh_fd (gh_dr (o 11 0)) o n := EB
          rw [← e9]
          exact hP
        exact W.vret hx hb hr (fun t9 ht hW => ⟨⟨(), rfl, trivial, gh_hp hP9 ht⟩, hS.F ht⟩) hS.2.2 dX0_fadeAndDry_81
      · intro i hi_lo hi ih
        intro B EB hB H locs hP hD hS ls hl
        refine lv_iload_n hx hb dX0_fadeAndDry_18 rfl (lv_at hl 2 rfl) ?_
        refine lv_aload_n hx hb dX0_fadeAndDry_19 rfl (lv_at hl 0 rfl) ?_
        refine va_get (D := G.1) (ci := 0) (v := .int (B 10 0)) (C := RX0) (T := TX0) (N := 15) hx hb hts (fun w9 h9 => List.mem_cons_of_mem _ (List.mem_append_right _ h9)) hown hK hP 0 rfl rfl 10 (by decide) (hts (.fieldLink RX0 40 "GlassHarp$Orchestra" "glasses" "I") (List.mem_of_getElem? (i := 2) rfl)) (fun _ h9 => h9) rfl dX0_fadeAndDry_20 ?_
        refine gh_vv (y := nI n) (hB) ?_
        refine lv_icmp_ge (tgt := 81) hx hb dX0_fadeAndDry_23 (by decide) (fun c_3 => absurd c_3 (nI_ge hi (Nat.lt_of_le_of_lt hn16 (by decide)))) (fun c_3 => ?_)
        have J53 : ∀ (C : gh_B), C = gh_f1 B i → C 10 0 = nI n → ∀ (H : Heap) (locs : List Loc), va_P G.1 vwCl (wO G a sc C) H → va_D A (wO G a sc C) → va_S A s.heap H locs → ∀ (ls : Array Slot), lv_has ls 3 [(0, .ref (a 0)), (1, .int (gh_dr (o 11 0))), (2, .int (nI i))] → W p l e (headSpec wsX0_fadeAndDry ({ frames := 1, cells := 0, slots := 0, locals := 21 } : Room)).room s m ([.ref (a 0)] : List Value).toArray below meth c H locs 0 0 (MQ below (va_Qv (fun _ : Unit => True) (fun _ t9 => va_P G.1 vwCl (wO G a sc (gh_fd (gh_dr (o 11 0)) o n)) t9.heap) A) ([.ref (a 0)] : List Value).toArray s 0 0 A) (F0 m 53 ls []) := by
          intro C EC hC H locs hP hD hS ls hl
          refine lv_iload_n hx hb dX0_fadeAndDry_53 rfl (lv_at hl 1 rfl) ?_
          refine lv_if_eq (tgt := 75) hx hb dX0_fadeAndDry_54 (by decide) (fun c_5 => ?_) (fun c_5 => ?_)
          · skip
            refine lv_iinc (v := nI (i + 1)) (lv' := [(2, .int (nI (i + 1))), (0, .ref (a 0)), (1, .int (gh_dr (o 11 0)))]) hx hb dX0_fadeAndDry_75 hl (k := 2) rfl (nI_1 i) (by decide) rfl (fun ls hl => ?_)
            refine lv_goto (tgt := 18) hx hb dX0_fadeAndDry_78 (by decide) ?_
            exact ih C (by first | (simp only [gh_fd, gh_f2, ← EB, ← EC, c_5, ↓reduceIte, if_true, if_false]; done) | (simp only [gh_fd, gh_f2, ← EB, ← EC]; simp only [c_5, ↓reduceIte, if_true, if_false]; done)) (hC) _ _ hP hD hS _ (lv_sub hl [1, 2, 0] rfl)
          · skip
            refine lv_aload_n hx hb dX0_fadeAndDry_57 rfl (lv_at hl 0 rfl) ?_
            refine va_get (D := G.1) (ci := 0) (v := .ref (a 3)) (C := RX0) (T := TX0) (N := 15) hx hb hts (fun w9 h9 => List.mem_cons_of_mem _ (List.mem_append_right _ h9)) hown hK hP 0 rfl rfl 3 (by decide) (hts (.fieldLink RX0 18 "GlassHarp$Orchestra" "drops" "[I") (List.mem_of_getElem? (i := 9) rfl)) (fun _ h9 => h9) rfl dX0_fadeAndDry_58 ?_
            refine lv_iload_n hx hb dX0_fadeAndDry_61 rfl (lv_at hl 2 rfl) ?_
            refine lv_iconst (v := 0) hx hb dX0_fadeAndDry_62 (by decide) ?_
            refine lv_aload_n hx hb dX0_fadeAndDry_63 rfl (lv_at hl 0 rfl) ?_
            refine va_get (D := G.1) (ci := 0) (v := .ref (a 3)) (C := RX0) (T := TX0) (N := 15) hx hb hts (fun w9 h9 => List.mem_cons_of_mem _ (List.mem_append_right _ h9)) hown hK hP 0 rfl rfl 3 (by decide) (hts (.fieldLink RX0 18 "GlassHarp$Orchestra" "drops" "[I") (List.mem_of_getElem? (i := 9) rfl)) (fun _ h9 => h9) rfl dX0_fadeAndDry_64 ?_
            refine lv_iload_n hx hb dX0_fadeAndDry_67 rfl (lv_at hl 2 rfl) ?_
            refine gh_ia (f := C 3) hx hb hK hP 3 0 rfl rfl i (rfl) (by omega) (by decide) dX0_fadeAndDry_68 ?_
            refine lv_iconst (v := 1) hx hb dX0_fadeAndDry_69 (by decide) ?_
            refine lv_isub hx hb dX0_fadeAndDry_70 ?_
            refine va_mmax hx hb (hml.trans hl.1.symm) hown (hts (.methodLink RX0 75 Lib.Math.max.name) (List.mem_of_getElem? (i := 5) rfl)) (hts (.static Lib.Math.max.name) (List.mem_of_getElem? (i := 6) rfl)) (hts (.initialized "java/lang/Math") (List.mem_of_getElem? (i := 7) rfl)) (hts (.code Lib.Math.max.name Lib.Math.max.code 2 (some .int)) (List.mem_of_getElem? (i := 8) rfl)) (Nat.le_of_ble_eq_true rfl) (Nat.le_of_ble_eq_true rfl) (Nat.le_of_ble_eq_true rfl) (Nat.le_of_ble_eq_true rfl) dX0_fadeAndDry_71 ?_
            refine gh_vv (y := gh_m0 (C 3 i - 1)) (rfl) ?_
            refine gh_is (f := C 3) (ws' := wO G a sc (gh_st C 3 (upd (C 3) i (gh_m0 (C 3 i - 1))))) hx hb hK hP hD hS 3 0 rfl rfl i (rfl) (by omega) (by decide) dX0_fadeAndDry_74 rfl (fun H locs hP hD hS => ?_)
            refine lv_iinc (v := nI (i + 1)) (lv' := [(2, .int (nI (i + 1))), (0, .ref (a 0)), (1, .int (gh_dr (o 11 0)))]) hx hb dX0_fadeAndDry_75 hl (k := 2) rfl (nI_1 i) (by decide) rfl (fun ls hl => ?_)
            refine lv_goto (tgt := 18) hx hb dX0_fadeAndDry_78 (by decide) ?_
            exact ih (gh_st C 3 (upd (C 3) i (gh_m0 (C 3 i - 1)))) (by first | (simp only [gh_fd, gh_f2, ← EB, ← EC, c_5, ↓reduceIte, if_true, if_false]; done) | (simp only [gh_fd, gh_f2, ← EB, ← EC]; simp only [c_5, ↓reduceIte, if_true, if_false]; done)) (hC) _ _ hP hD hS _ (lv_sub hl [1, 2, 0] rfl)
        refine lv_aload_n hx hb dX0_fadeAndDry_26 rfl (lv_at hl 0 rfl) ?_
        refine va_get (D := G.1) (ci := 0) (v := .ref (a 7)) (C := RX0) (T := TX0) (N := 15) hx hb hts (fun w9 h9 => List.mem_cons_of_mem _ (List.mem_append_right _ h9)) hown hK hP 0 rfl rfl 7 (by decide) (hts (.fieldLink RX0 31 "GlassHarp$Orchestra" "busy" "[Z") (List.mem_of_getElem? (i := 3) rfl)) (fun _ h9 => h9) rfl dX0_fadeAndDry_27 ?_
        refine lv_iload_n hx hb dX0_fadeAndDry_30 rfl (lv_at hl 2 rfl) ?_
        refine gh_za (f := B 7) hx hb hK hP 7 1 rfl rfl i (rfl) (by omega) (by decide) dX0_fadeAndDry_31 ?_
        refine lv_if_ne (tgt := 53) hx hb dX0_fadeAndDry_32 (by decide) (fun c_6 => ?_) (fun c_6 => ?_)
        · skip
          exact J53 B (by first | (simp only [gh_f1, ← EB, c_3, c_6, ↓reduceIte, if_true, if_false]; done) | (simp only [gh_f1, ← EB]; simp only [c_3, c_6, ↓reduceIte, if_true, if_false]; done)) (hB) _ _ hP hD hS _ (lv_sub hl [0, 1, 2] rfl)
        · skip
          refine lv_aload_n hx hb dX0_fadeAndDry_35 rfl (lv_at hl 0 rfl) ?_
          refine va_get (D := G.1) (ci := 0) (v := .ref (a 5)) (C := RX0) (T := TX0) (N := 15) hx hb hts (fun w9 h9 => List.mem_cons_of_mem _ (List.mem_append_right _ h9)) hown hK hP 0 rfl rfl 5 (by decide) (hts (.fieldLink RX0 25 "GlassHarp$Orchestra" "rings" "[I") (List.mem_of_getElem? (i := 4) rfl)) (fun _ h9 => h9) rfl dX0_fadeAndDry_36 ?_
          refine lv_iload_n hx hb dX0_fadeAndDry_39 rfl (lv_at hl 2 rfl) ?_
          refine lv_iconst (v := 0) hx hb dX0_fadeAndDry_40 (by decide) ?_
          refine lv_aload_n hx hb dX0_fadeAndDry_41 rfl (lv_at hl 0 rfl) ?_
          refine va_get (D := G.1) (ci := 0) (v := .ref (a 5)) (C := RX0) (T := TX0) (N := 15) hx hb hts (fun w9 h9 => List.mem_cons_of_mem _ (List.mem_append_right _ h9)) hown hK hP 0 rfl rfl 5 (by decide) (hts (.fieldLink RX0 25 "GlassHarp$Orchestra" "rings" "[I") (List.mem_of_getElem? (i := 4) rfl)) (fun _ h9 => h9) rfl dX0_fadeAndDry_42 ?_
          refine lv_iload_n hx hb dX0_fadeAndDry_45 rfl (lv_at hl 2 rfl) ?_
          refine gh_ia (f := B 5) hx hb hK hP 5 0 rfl rfl i (rfl) (by omega) (by decide) dX0_fadeAndDry_46 ?_
          refine lv_iconst (v := 1) hx hb dX0_fadeAndDry_47 (by decide) ?_
          refine lv_isub hx hb dX0_fadeAndDry_48 ?_
          refine va_mmax hx hb (hml.trans hl.1.symm) hown (hts (.methodLink RX0 75 Lib.Math.max.name) (List.mem_of_getElem? (i := 5) rfl)) (hts (.static Lib.Math.max.name) (List.mem_of_getElem? (i := 6) rfl)) (hts (.initialized "java/lang/Math") (List.mem_of_getElem? (i := 7) rfl)) (hts (.code Lib.Math.max.name Lib.Math.max.code 2 (some .int)) (List.mem_of_getElem? (i := 8) rfl)) (Nat.le_of_ble_eq_true rfl) (Nat.le_of_ble_eq_true rfl) (Nat.le_of_ble_eq_true rfl) (Nat.le_of_ble_eq_true rfl) dX0_fadeAndDry_49 ?_
          refine gh_vv (y := gh_m0 (B 5 i - 1)) (rfl) ?_
          refine gh_is (f := B 5) (ws' := wO G a sc (gh_st B 5 (upd (B 5) i (gh_m0 (B 5 i - 1))))) hx hb hK hP hD hS 5 0 rfl rfl i (rfl) (by omega) (by decide) dX0_fadeAndDry_52 rfl (fun H locs hP hD hS => ?_)
          exact J53 (gh_st B 5 (upd (B 5) i (gh_m0 (B 5 i - 1)))) (by first | (simp only [gh_f1, ← EB, c_3, c_6, ↓reduceIte, if_true, if_false]; done) | (simp only [gh_f1, ← EB]; simp only [c_3, c_6, ↓reduceIte, if_true, if_false]; done)) (hB) _ _ hP hD hS _ (lv_sub hl [0, 1, 2] rfl)
    exact J18 o (by first | (simp only [gh_fd, gh_f2, ↓reduceIte, if_true, if_false]; done) | (simp only [gh_fd, gh_f2, ↓reduceIte, if_true, if_false]; rfl)) (hn) _ _ hP hD hS _ (lv_sub hl [2, 1, 0] rfl)
  refine lv_aload_n hx hb dX0_fadeAndDry_0 rfl (lv_at hl 0 rfl) ?_
  refine va_get (D := G.1) (ci := 0) (v := .int (o 11 0)) (C := RX0) (T := TX0) (N := 15) hx hb hts (fun w9 h9 => List.mem_cons_of_mem _ (List.mem_append_right _ h9)) hown hK hP 0 rfl rfl 11 (by decide) (hts (.fieldLink RX0 44 "GlassHarp$Orchestra" "beat" "I") (List.mem_of_getElem? (i := 1) rfl)) (fun _ h9 => h9) rfl dX0_fadeAndDry_1 ?_
  refine lv_bipush (v := 8) hx hb dX0_fadeAndDry_4 (by decide) ?_
  refine lv_irem hx hb dX0_fadeAndDry_6 (by decide) ?_
  refine lv_if_ne (tgt := 14) hx hb dX0_fadeAndDry_7 (by decide) (fun c_7 => ?_) (fun c_7 => ?_)
  · skip
    refine lv_iconst (v := 0) hx hb dX0_fadeAndDry_14 (by decide) ?_
    exact J15 0 (by first | (simp only [gh_dr, c_7, ↓reduceIte, if_true, if_false]; done) | (simp only [gh_dr]; simp only [c_7, ↓reduceIte, if_true, if_false]; done)) _ _ hP hD hS _ (lv_sub hl [0] rfl)
  · skip
    refine lv_iconst (v := 1) hx hb dX0_fadeAndDry_10 (by decide) ?_
    refine lv_goto (tgt := 15) hx hb dX0_fadeAndDry_11 (by decide) ?_
    exact J15 1 (by first | (simp only [gh_dr, c_7, ↓reduceIte, if_true, if_false]; done) | (simp only [gh_dr]; simp only [c_7, ↓reduceIte, if_true, if_false]; done)) _ _ hP hD hS _ (lv_sub hl [0] rfl)
set_option maxHeartbeats 4000000 in
set_option maxRecDepth 100000 in
theorem c_X0_letGoBy (l : Launch) (G : gh_G) (sz : Nat) (a : Nat → Nat) (b : Nat → Nat) (o : gh_B) (z : gh_B) (n : Nat) (nn : Nat) (g : Nat) (hn : o 10 0 = nI n) (hn16 : n ≤ 16) (hz : z 3 0 = nI nn) (hz32 : nn ≤ 32) (hg : g < 2 ^ 31) : Met l yX0_letGoBy wsX0_letGoBy ({ frames := 4, cells := 0, slots := 0, locals := 93 } : Room) (gh_w G [.ref (a 0), .int (nI g)] ((wO G a (b 5) o) ++ (wS G b z)) sz) (va_Qv (fun _ : Unit => True) (fun _ t9 => va_P G.1 vwCl ((wO G a (b 5) (gh_go z o n nn g)) ++ (wS G b z)) t9.heap) (va_A ((wO G a (b 5) o) ++ (wS G b z)) sz)) 0 0 (va_A ((wO G a (b 5) o) ++ (wS G b z)) sz) := by
  refine Met.ofW (cc := cX0_letGoBy) (maxL := 3) (ret := none) (by decide) rfl ?_
  intro p e s m args below meth c s₁ B hml hv
  obtain ⟨rfl, hsz, hP, hE, hD0⟩ := hv
  have hx := B.exec
  have hb := B.bytes
  have hr := B.returns
  have hts := atoms_spec (ws := wsX0_letGoBy) B.pre
  have hown : s.vm.findClass RX0 = some m.cls := findClass_of_methodNamed B.named
  have hlocks := B.notSynchronized
  have hK := hE.1
  subst hsz
  have hD := hD0.self (sz := s.heap.size)
  generalize hAe : va_A ((wO G a (b 5) o) ++ (wS G b z)) s.heap.size = A at hD ⊢
  have hA : ∀ q : Nat, s.heap.size ≤ q → A q := fun q h => by rw [← hAe]; exact Or.inr h
  have hS : va_S A s.heap s.heap [] := va_S.rf
  have hl := lv_entry ([.ref (a 0), .int (nI g)]) (n := 3) (Nat.le_of_ble_eq_true rfl)
  rw [lg_entry_eq]
  generalize (lg_sl ([.ref (a 0), .int (nI g)]) ++ List.replicate (3 - (lg_sl ([.ref (a 0), .int (nI g)])).length) Slot.unset).toArray = ls at hl ⊢
  have hl : lv_has ls 3 [(0, .ref (a 0)), (1, .int (nI g))] := hl
  refine lv_iconst (v := 0) hx hb dX0_letGoBy_0 (by decide) ?_
  refine lv_istore_n (lv' := [(2, .int 0), (0, .ref (a 0)), (1, .int (nI g))]) hx hb dX0_letGoBy_1 rfl hl (by decide) rfl (fun ls hl => ?_)
  have J2 : ∀ (B : gh_B), B = gh_go z o n nn 0 → B 10 0 = nI n → ∀ (H : Heap) (locs : List Loc), va_P G.1 vwCl ((wO G a (b 5) B) ++ (wS G b z)) H → va_D A ((wO G a (b 5) B) ++ (wS G b z)) → va_S A s.heap H locs → ∀ (ls : Array Slot), lv_has ls 3 [(0, .ref (a 0)), (1, .int (nI g)), (2, .int (nI 0))] → W p l e (headSpec wsX0_letGoBy ({ frames := 4, cells := 0, slots := 0, locals := 93 } : Room)).room s m ([.ref (a 0), .int (nI g)] : List Value).toArray below meth c H locs 0 0 (MQ below (va_Qv (fun _ : Unit => True) (fun _ t9 => va_P G.1 vwCl ((wO G a (b 5) (gh_go z o n nn g)) ++ (wS G b z)) t9.heap) A) ([.ref (a 0), .int (nI g)] : List Value).toArray s 0 0 A) (F0 m 2 ls []) := by
    refine gh_loop (n := g) (i0 := 0) (Nat.zero_le _) (P := fun i => ∀ (B : gh_B), B = gh_go z o n nn i → B 10 0 = nI n → ∀ (H : Heap) (locs : List Loc), va_P G.1 vwCl ((wO G a (b 5) B) ++ (wS G b z)) H → va_D A ((wO G a (b 5) B) ++ (wS G b z)) → va_S A s.heap H locs → ∀ (ls : Array Slot), lv_has ls 3 [(0, .ref (a 0)), (1, .int (nI g)), (2, .int (nI i))] → W p l e (headSpec wsX0_letGoBy ({ frames := 4, cells := 0, slots := 0, locals := 93 } : Room)).room s m ([.ref (a 0), .int (nI g)] : List Value).toArray below meth c H locs 0 0 (MQ below (va_Qv (fun _ : Unit => True) (fun _ t9 => va_P G.1 vwCl ((wO G a (b 5) (gh_go z o n nn g)) ++ (wS G b z)) t9.heap) A) ([.ref (a 0), .int (nI g)] : List Value).toArray s 0 0 A) (F0 m 2 ls [])) ?_ ?_
    · skip
      intro B EB hB H locs hP hD hS ls hl
      refine lv_iload_n hx hb dX0_letGoBy_2 rfl (lv_at hl 2 rfl) ?_
      refine lv_iload_n hx hb dX0_letGoBy_3 rfl (lv_at hl 1 rfl) ?_
      refine lv_icmp_ge (tgt := 35) hx hb dX0_letGoBy_4 (by decide) (fun c_1 => ?_) (fun c_1 => absurd (nI_le (Nat.le_refl _) (hg)) c_1)
      have hP9 : va_P G.1 vwCl ((wO G a (b 5) (gh_go z o n nn g)) ++ (wS G b z)) H := by
        have e9 : B = gh_go z o n nn g := EB
        rw [← e9]
        exact hP
      exact W.vret hx hb hr (fun t9 ht hW => ⟨⟨(), rfl, trivial, gh_hp hP9 ht⟩, hS.F ht⟩) hS.2.2 dX0_letGoBy_35
    · intro i hi_lo hi ih
      intro B EB hB H locs hP hD hS ls hl
      refine lv_iload_n hx hb dX0_letGoBy_2 rfl (lv_at hl 2 rfl) ?_
      refine lv_iload_n hx hb dX0_letGoBy_3 rfl (lv_at hl 1 rfl) ?_
      refine lv_icmp_ge (tgt := 35) hx hb dX0_letGoBy_4 (by decide) (fun c_2 => absurd c_2 (nI_ge hi (hg))) (fun c_2 => ?_)
      refine lv_aload_n hx hb dX0_letGoBy_7 rfl (lv_at hl 0 rfl) ?_
      refine gh_cv (wr := wS G b z) (ws' := (wO G a (b 5) (gh_fb B 4)) ++ (wS G b z)) (va_runV (As := []) (rest := []) ⟨hx, hb, hml, hown, hts⟩ (c_X0_fillBellows l G H.size a (b 5) B) (cwV 0 hts gX0_letGoBy_X0_fillBellows rfl rfl rfl ⟨rfl, hdS_X0_fillBellows⟩ ⟨Nat.le_of_ble_eq_true rfl, Nat.le_of_ble_eq_true rfl⟩) (gh_wV hE (hP.sub (ws' := wO G a (b 5) B) [0, 1, 2, 3, 4, 5, 6, 7, 8, 9] rfl) (hD.sub (ws' := wO G a (b 5) B) [0, 1, 2, 3, 4, 5, 6, 7, 8, 9] (by decide) rfl) (ci := 0) (q0 := 0) rfl rfl) rfl rfl hl.1 rfl (lv_room (Nat.le_of_ble_eq_true rfl)) dX0_letGoBy_8 ⟨Nat.le_of_ble_eq_true rfl, Nat.le_of_ble_eq_true rfl⟩) hP hD hS hA [0, 1, 2, 3, 4, 5, 6, 7, 8, 9] [10, 11, 12, 13] [4, 5, 6, 7, 8, 9, 10, 11, 12, 13, 0, 1, 2, 3] rfl rfl (by decide) (by decide) (by decide) [a 0, a 1, a 2, a 3, a 4, a 5, a 6, a 7, a 8, a 9] [a 0, a 1, a 2, a 3, a 4, a 5, a 6, a 7, a 8, a 9, b 5, b 0, b 1, b 2] rfl rfl rfl rfl rfl (fun H locs hP hD hS => ?_)
      refine lv_aload_n hx hb dX0_letGoBy_11 rfl (lv_at hl 0 rfl) ?_
      refine gh_cv (wr := []) (ws' := (wO G a (b 5) (gh_pn z (gh_fb B 4) n nn)) ++ (wS G b z)) (va_runV (As := []) (rest := []) ⟨hx, hb, hml, hown, hts⟩ (c_X0_playNotes l G H.size a b (gh_fb B 4) z n nn (by rw [gh_fb_10]; exact hB) (hn16) (hz) (hz32)) (cwV 0 hts gX0_letGoBy_X0_playNotes rfl rfl rfl ⟨rfl, hdS_X0_playNotes⟩ ⟨Nat.le_of_ble_eq_true rfl, Nat.le_of_ble_eq_true rfl⟩) (gh_wV hE hP hD (ci := 0) (q0 := 0) rfl rfl) rfl rfl hl.1 rfl (lv_room (Nat.le_of_ble_eq_true rfl)) dX0_letGoBy_12 ⟨Nat.le_of_ble_eq_true rfl, Nat.le_of_ble_eq_true rfl⟩) hP hD hS hA [0, 1, 2, 3, 4, 5, 6, 7, 8, 9, 10, 11, 12, 13] [] [0, 1, 2, 3, 4, 5, 6, 7, 8, 9, 10, 11, 12, 13] rfl rfl (by decide) (by decide) (by decide) [a 0, a 1, a 2, a 3, a 4, a 5, a 6, a 7, a 8, a 9, b 5, b 0, b 1, b 2] [a 0, a 1, a 2, a 3, a 4, a 5, a 6, a 7, a 8, a 9, b 5, b 0, b 1, b 2] rfl rfl rfl rfl rfl (fun H locs hP hD hS => ?_)
      refine lv_aload_n hx hb dX0_letGoBy_15 rfl (lv_at hl 0 rfl) ?_
      refine gh_cv (wr := wS G b z) (ws' := (wO G a (b 5) (gh_fd (gh_dr ((gh_pn z (gh_fb B 4) n nn) 11 0)) (gh_pn z (gh_fb B 4) n nn) n)) ++ (wS G b z)) (va_runV (As := []) (rest := []) ⟨hx, hb, hml, hown, hts⟩ (c_X0_fadeAndDry l G H.size a (b 5) (gh_pn z (gh_fb B 4) n nn) n (by rw [gh_pn_10, gh_fb_10]; exact hB) (hn16)) (cwV 0 hts gX0_letGoBy_X0_fadeAndDry rfl rfl rfl ⟨rfl, hdS_X0_fadeAndDry⟩ ⟨Nat.le_of_ble_eq_true rfl, Nat.le_of_ble_eq_true rfl⟩) (gh_wV hE (hP.sub (ws' := wO G a (b 5) (gh_pn z (gh_fb B 4) n nn)) [0, 1, 2, 3, 4, 5, 6, 7, 8, 9] rfl) (hD.sub (ws' := wO G a (b 5) (gh_pn z (gh_fb B 4) n nn)) [0, 1, 2, 3, 4, 5, 6, 7, 8, 9] (by decide) rfl) (ci := 0) (q0 := 0) rfl rfl) rfl rfl hl.1 rfl (lv_room (Nat.le_of_ble_eq_true rfl)) dX0_letGoBy_16 ⟨Nat.le_of_ble_eq_true rfl, Nat.le_of_ble_eq_true rfl⟩) hP hD hS hA [0, 1, 2, 3, 4, 5, 6, 7, 8, 9] [10, 11, 12, 13] [4, 5, 6, 7, 8, 9, 10, 11, 12, 13, 0, 1, 2, 3] rfl rfl (by decide) (by decide) (by decide) [a 0, a 1, a 2, a 3, a 4, a 5, a 6, a 7, a 8, a 9] [a 0, a 1, a 2, a 3, a 4, a 5, a 6, a 7, a 8, a 9, b 5, b 0, b 1, b 2] rfl rfl rfl rfl rfl (fun H locs hP hD hS => ?_)
      refine lv_aload_n hx hb dX0_letGoBy_19 rfl (lv_at hl 0 rfl) ?_
      refine lv_dup hx hb dX0_letGoBy_20 rfl ?_
      refine va_get (D := G.1) (ci := 0) (v := .int ((gh_fd (gh_dr ((gh_pn z (gh_fb B 4) n nn) 11 0)) (gh_pn z (gh_fb B 4) n nn) n) 11 0)) (C := RX0) (T := TX0) (N := 15) hx hb hts (fun w9 h9 => List.mem_cons_of_mem _ (List.mem_append_left _ (List.mem_append_right _ h9))) hown hK hP 0 rfl rfl 11 (by decide) (hts (.fieldLink RX0 44 "GlassHarp$Orchestra" "beat" "I") (List.mem_of_getElem? (i := 1) rfl)) (fun _ h9 => h9) rfl dX0_letGoBy_21 ?_
      refine lv_iconst (v := 1) hx hb dX0_letGoBy_24 (by decide) ?_
      refine lv_iadd hx hb dX0_letGoBy_25 ?_
      refine va_put (D := G.1) (ci := 0) (v := .int (((gh_fd (gh_dr ((gh_pn z (gh_fb B 4) n nn) 11 0)) (gh_pn z (gh_fb B 4) n nn) n) 11 0) + 1)) (ty := .int) (C := RX0) (T := TX0) (N := 15) hx hb hts (fun w9 h9 => List.mem_cons_of_mem _ (List.mem_append_left _ (List.mem_append_right _ h9))) tyX0 tyX0_ok nmX0 hown hK hP hD hS 0 rfl rfl 11 (by decide) (hts (.fieldLink RX0 44 "GlassHarp$Orchestra" "beat" "I") (List.mem_of_getElem? (i := 1) rfl)) (fun _ h9 => h9) rfl (tyX0_ok 11 (by decide)) rfl rfl (Nat.le_of_ble_eq_true rfl) dX0_letGoBy_26 (fun H locs hP hD hS => ?_)
      have hP : va_P G.1 vwCl ((wO G a (b 5) (gh_st (gh_fd (gh_dr ((gh_pn z (gh_fb B 4) n nn) 11 0)) (gh_pn z (gh_fb B 4) n nn) n) 11 (fun _ => ((gh_fd (gh_dr ((gh_pn z (gh_fb B 4) n nn) 11 0)) (gh_pn z (gh_fb B 4) n nn) n) 11 0) + 1))) ++ (wS G b z)) H := hP
      have hD : va_D A ((wO G a (b 5) (gh_st (gh_fd (gh_dr ((gh_pn z (gh_fb B 4) n nn) 11 0)) (gh_pn z (gh_fb B 4) n nn) n) 11 (fun _ => ((gh_fd (gh_dr ((gh_pn z (gh_fb B 4) n nn) 11 0)) (gh_pn z (gh_fb B 4) n nn) n) 11 0) + 1))) ++ (wS G b z)) := hD
      refine lv_iinc (v := nI (i + 1)) (lv' := [(2, .int (nI (i + 1))), (0, .ref (a 0)), (1, .int (nI g))]) hx hb dX0_letGoBy_29 hl (k := 2) rfl (nI_1 i) (by decide) rfl (fun ls hl => ?_)
      refine lv_goto (tgt := 2) hx hb dX0_letGoBy_32 (by decide) ?_
      exact ih (gh_st (gh_fd (gh_dr ((gh_pn z (gh_fb B 4) n nn) 11 0)) (gh_pn z (gh_fb B 4) n nn) n) 11 (fun _ => ((gh_fd (gh_dr ((gh_pn z (gh_fb B 4) n nn) 11 0)) (gh_pn z (gh_fb B 4) n nn) n) 11 0) + 1)) (by first | (simp only [gh_go, gh_bt, gh_be, ← EB, c_2, ↓reduceIte, if_true, if_false]; done) | (simp only [gh_go, gh_bt, gh_be, ← EB]; simp only [c_2, ↓reduceIte, if_true, if_false]; done)) (by rw [gh_sn _ _ (by decide), gh_fd_10, gh_pn_10, gh_fb_10]; exact hB) _ _ hP hD hS _ (lv_sub hl [1, 2, 0] rfl)
  exact J2 o (by first | (simp only [gh_go, gh_bt, gh_be, ↓reduceIte, if_true, if_false]; done) | (simp only [gh_go, gh_bt, gh_be, ↓reduceIte, if_true, if_false]; rfl)) (hn) _ _ hP hD hS _ (lv_sub hl [1, 2, 0] rfl)
set_option maxHeartbeats 4000000 in
set_option maxRecDepth 100000 in
theorem c_X0_takeOver (l : Launch) (G : gh_G) (sz : Nat) (a : Nat → Nat) (sc : Nat) (o : gh_B) (d : Nat → Nat) (sd : Nat) (q : gh_B) (n : Nat) (hn : q 10 0 = nI n) (hn16 : n ≤ 16) : Met l yX0_takeOver wsX0_takeOver ({ frames := 0, cells := 0, slots := 0, locals := 0 } : Room) (gh_w G [.ref (a 0), .ref (d 0)] ((wO G a sc o) ++ (wO G d sd q)) sz) (va_Qv (fun _ : Unit => True) (fun _ t9 => va_P G.1 vwCl ((wO G a sc (gh_to q o n)) ++ (wO G d sd q)) t9.heap) (va_A ((wO G a sc o) ++ (wO G d sd q)) sz)) 0 0 (va_A ((wO G a sc o) ++ (wO G d sd q)) sz) := by
  refine Met.ofW (cc := cX0_takeOver) (maxL := 3) (ret := none) (by decide) rfl ?_
  intro p e s m args below meth c s₁ B hml hv
  obtain ⟨rfl, hsz, hP, hE, hD0⟩ := hv
  have hx := B.exec
  have hb := B.bytes
  have hr := B.returns
  have hts := atoms_spec (ws := wsX0_takeOver) B.pre
  have hown : s.vm.findClass RX0 = some m.cls := findClass_of_methodNamed B.named
  have hlocks := B.notSynchronized
  have hK := hE.1
  subst hsz
  have hD := hD0.self (sz := s.heap.size)
  generalize hAe : va_A ((wO G a sc o) ++ (wO G d sd q)) s.heap.size = A at hD ⊢
  have hA : ∀ q : Nat, s.heap.size ≤ q → A q := fun q h => by rw [← hAe]; exact Or.inr h
  have hS : va_S A s.heap s.heap [] := va_S.rf
  have hl := lv_entry ([.ref (a 0), .ref (d 0)]) (n := 3) (Nat.le_of_ble_eq_true rfl)
  rw [lg_entry_eq]
  generalize (lg_sl ([.ref (a 0), .ref (d 0)]) ++ List.replicate (3 - (lg_sl ([.ref (a 0), .ref (d 0)])).length) Slot.unset).toArray = ls at hl ⊢
  have hl : lv_has ls 3 [(0, .ref (a 0)), (1, .ref (d 0))] := hl
  refine lv_iconst (v := 0) hx hb dX0_takeOver_0 (by decide) ?_
  refine lv_istore_n (lv' := [(2, .int 0), (0, .ref (a 0)), (1, .ref (d 0))]) hx hb dX0_takeOver_1 rfl hl (by decide) rfl (fun ls hl => ?_)
  have J2 : ∀ (B : gh_B), B = gh_tk q o 0 → ∀ (H : Heap) (locs : List Loc), va_P G.1 vwCl ((wO G a sc B) ++ (wO G d sd q)) H → va_D A ((wO G a sc B) ++ (wO G d sd q)) → va_S A s.heap H locs → ∀ (ls : Array Slot), lv_has ls 3 [(0, .ref (a 0)), (1, .ref (d 0)), (2, .int (nI 0))] → W p l e (headSpec wsX0_takeOver ({ frames := 0, cells := 0, slots := 0, locals := 0 } : Room)).room s m ([.ref (a 0), .ref (d 0)] : List Value).toArray below meth c H locs 0 0 (MQ below (va_Qv (fun _ : Unit => True) (fun _ t9 => va_P G.1 vwCl ((wO G a sc (gh_to q o n)) ++ (wO G d sd q)) t9.heap) A) ([.ref (a 0), .ref (d 0)] : List Value).toArray s 0 0 A) (F0 m 2 ls []) := by
    refine gh_loop (n := n) (i0 := 0) (Nat.zero_le _) (P := fun i => ∀ (B : gh_B), B = gh_tk q o i → ∀ (H : Heap) (locs : List Loc), va_P G.1 vwCl ((wO G a sc B) ++ (wO G d sd q)) H → va_D A ((wO G a sc B) ++ (wO G d sd q)) → va_S A s.heap H locs → ∀ (ls : Array Slot), lv_has ls 3 [(0, .ref (a 0)), (1, .ref (d 0)), (2, .int (nI i))] → W p l e (headSpec wsX0_takeOver ({ frames := 0, cells := 0, slots := 0, locals := 0 } : Room)).room s m ([.ref (a 0), .ref (d 0)] : List Value).toArray below meth c H locs 0 0 (MQ below (va_Qv (fun _ : Unit => True) (fun _ t9 => va_P G.1 vwCl ((wO G a sc (gh_to q o n)) ++ (wO G d sd q)) t9.heap) A) ([.ref (a 0), .ref (d 0)] : List Value).toArray s 0 0 A) (F0 m 2 ls [])) ?_ ?_
    · skip
      intro B EB H locs hP hD hS ls hl
      refine lv_iload_n hx hb dX0_takeOver_2 rfl (lv_at hl 2 rfl) ?_
      refine lv_aload_n hx hb dX0_takeOver_3 rfl (lv_at hl 1 rfl) ?_
      refine va_get (D := G.1) (ci := 0) (v := .int (q 10 0)) (C := RX0) (T := TX0) (N := 15) hx hb hts (fun w9 h9 => List.mem_cons_of_mem _ (List.mem_append_right _ h9)) hown hK hP 10 rfl rfl 10 (by decide) (hts (.fieldLink RX0 40 "GlassHarp$Orchestra" "glasses" "I") (List.mem_of_getElem? (i := 1) rfl)) (fun _ h9 => h9) rfl dX0_takeOver_4 ?_
      refine gh_vv (y := nI n) (hn) ?_
      refine lv_icmp_ge (tgt := 88) hx hb dX0_takeOver_7 (by decide) (fun c_1 => ?_) (fun c_1 => absurd (nI_le (Nat.le_refl _) (Nat.lt_of_le_of_lt hn16 (by decide))) c_1)
      refine lv_iconst (v := 0) hx hb dX0_takeOver_88 (by decide) ?_
      refine lv_istore_n (lv' := [(2, .int 0), (0, .ref (a 0)), (1, .ref (d 0))]) hx hb dX0_takeOver_89 rfl hl (by decide) rfl (fun ls hl => ?_)
      have J90 : ∀ (C : gh_B), C = gh_ta q B 0 → ∀ (H : Heap) (locs : List Loc), va_P G.1 vwCl ((wO G a sc C) ++ (wO G d sd q)) H → va_D A ((wO G a sc C) ++ (wO G d sd q)) → va_S A s.heap H locs → ∀ (ls : Array Slot), lv_has ls 3 [(0, .ref (a 0)), (1, .ref (d 0)), (2, .int (nI 0))] → W p l e (headSpec wsX0_takeOver ({ frames := 0, cells := 0, slots := 0, locals := 0 } : Room)).room s m ([.ref (a 0), .ref (d 0)] : List Value).toArray below meth c H locs 0 0 (MQ below (va_Qv (fun _ : Unit => True) (fun _ t9 => va_P G.1 vwCl ((wO G a sc (gh_to q o n)) ++ (wO G d sd q)) t9.heap) A) ([.ref (a 0), .ref (d 0)] : List Value).toArray s 0 0 A) (F0 m 90 ls []) := by
        refine gh_loop (n := 4) (i0 := 0) (Nat.zero_le _) (P := fun i => ∀ (C : gh_B), C = gh_ta q B i → ∀ (H : Heap) (locs : List Loc), va_P G.1 vwCl ((wO G a sc C) ++ (wO G d sd q)) H → va_D A ((wO G a sc C) ++ (wO G d sd q)) → va_S A s.heap H locs → ∀ (ls : Array Slot), lv_has ls 3 [(0, .ref (a 0)), (1, .ref (d 0)), (2, .int (nI i))] → W p l e (headSpec wsX0_takeOver ({ frames := 0, cells := 0, slots := 0, locals := 0 } : Room)).room s m ([.ref (a 0), .ref (d 0)] : List Value).toArray below meth c H locs 0 0 (MQ below (va_Qv (fun _ : Unit => True) (fun _ t9 => va_P G.1 vwCl ((wO G a sc (gh_to q o n)) ++ (wO G d sd q)) t9.heap) A) ([.ref (a 0), .ref (d 0)] : List Value).toArray s 0 0 A) (F0 m 90 ls [])) ?_ ?_
        · skip
          intro C EC H locs hP hD hS ls hl
          refine lv_iload_n hx hb dX0_takeOver_90 rfl (lv_at hl 2 rfl) ?_
          refine lv_iconst (v := 4) hx hb dX0_takeOver_91 (by decide) ?_
          refine lv_icmp_ge (tgt := 125) hx hb dX0_takeOver_92 (by decide) (fun c_2 => ?_) (fun c_2 => absurd (nI_le (Nat.le_refl _) (by decide)) c_2)
          refine lv_aload_n hx hb dX0_takeOver_125 rfl (lv_at hl 0 rfl) ?_
          refine lv_aload_n hx hb dX0_takeOver_126 rfl (lv_at hl 1 rfl) ?_
          refine va_get (D := G.1) (ci := 0) (v := .int (q 10 0)) (C := RX0) (T := TX0) (N := 15) hx hb hts (fun w9 h9 => List.mem_cons_of_mem _ (List.mem_append_right _ h9)) hown hK hP 10 rfl rfl 10 (by decide) (hts (.fieldLink RX0 40 "GlassHarp$Orchestra" "glasses" "I") (List.mem_of_getElem? (i := 1) rfl)) (fun _ h9 => h9) rfl dX0_takeOver_127 ?_
          refine gh_vv (y := q 10 0) (rfl) ?_
          refine va_put (D := G.1) (ci := 0) (v := .int (q 10 0)) (ty := .int) (C := RX0) (T := TX0) (N := 15) hx hb hts (fun w9 h9 => List.mem_cons_of_mem _ (List.mem_append_right _ h9)) tyX0 tyX0_ok nmX0 hown hK hP hD hS 0 rfl rfl 10 (by decide) (hts (.fieldLink RX0 40 "GlassHarp$Orchestra" "glasses" "I") (List.mem_of_getElem? (i := 1) rfl)) (fun _ h9 => h9) rfl (tyX0_ok 10 (by decide)) rfl rfl (Nat.le_of_ble_eq_true rfl) dX0_takeOver_130 (fun H locs hP hD hS => ?_)
          have hP : va_P G.1 vwCl ((wO G a sc (gh_st C 10 (fun _ => q 10 0))) ++ (wO G d sd q)) H := hP
          have hD : va_D A ((wO G a sc (gh_st C 10 (fun _ => q 10 0))) ++ (wO G d sd q)) := hD
          refine lv_aload_n hx hb dX0_takeOver_133 rfl (lv_at hl 0 rfl) ?_
          refine lv_aload_n hx hb dX0_takeOver_134 rfl (lv_at hl 1 rfl) ?_
          refine va_get (D := G.1) (ci := 0) (v := .int (q 11 0)) (C := RX0) (T := TX0) (N := 15) hx hb hts (fun w9 h9 => List.mem_cons_of_mem _ (List.mem_append_right _ h9)) hown hK hP 10 rfl rfl 11 (by decide) (hts (.fieldLink RX0 44 "GlassHarp$Orchestra" "beat" "I") (List.mem_of_getElem? (i := 10) rfl)) (fun _ h9 => h9) rfl dX0_takeOver_135 ?_
          refine va_put (D := G.1) (ci := 0) (v := .int (q 11 0)) (ty := .int) (C := RX0) (T := TX0) (N := 15) hx hb hts (fun w9 h9 => List.mem_cons_of_mem _ (List.mem_append_right _ h9)) tyX0 tyX0_ok nmX0 hown hK hP hD hS 0 rfl rfl 11 (by decide) (hts (.fieldLink RX0 44 "GlassHarp$Orchestra" "beat" "I") (List.mem_of_getElem? (i := 10) rfl)) (fun _ h9 => h9) rfl (tyX0_ok 11 (by decide)) rfl rfl (Nat.le_of_ble_eq_true rfl) dX0_takeOver_138 (fun H locs hP hD hS => ?_)
          have hP : va_P G.1 vwCl ((wO G a sc (gh_st (gh_st C 10 (fun _ => q 10 0)) 11 (fun _ => q 11 0))) ++ (wO G d sd q)) H := hP
          have hD : va_D A ((wO G a sc (gh_st (gh_st C 10 (fun _ => q 10 0)) 11 (fun _ => q 11 0))) ++ (wO G d sd q)) := hD
          refine lv_aload_n hx hb dX0_takeOver_141 rfl (lv_at hl 0 rfl) ?_
          refine lv_aload_n hx hb dX0_takeOver_142 rfl (lv_at hl 1 rfl) ?_
          refine va_get (D := G.1) (ci := 0) (v := .int (q 12 0)) (C := RX0) (T := TX0) (N := 15) hx hb hts (fun w9 h9 => List.mem_cons_of_mem _ (List.mem_append_right _ h9)) hown hK hP 10 rfl rfl 12 (by decide) (hts (.fieldLink RX0 47 "GlassHarp$Orchestra" "played" "I") (List.mem_of_getElem? (i := 11) rfl)) (fun _ h9 => h9) rfl dX0_takeOver_143 ?_
          refine va_put (D := G.1) (ci := 0) (v := .int (q 12 0)) (ty := .int) (C := RX0) (T := TX0) (N := 15) hx hb hts (fun w9 h9 => List.mem_cons_of_mem _ (List.mem_append_right _ h9)) tyX0 tyX0_ok nmX0 hown hK hP hD hS 0 rfl rfl 12 (by decide) (hts (.fieldLink RX0 47 "GlassHarp$Orchestra" "played" "I") (List.mem_of_getElem? (i := 11) rfl)) (fun _ h9 => h9) rfl (tyX0_ok 12 (by decide)) rfl rfl (Nat.le_of_ble_eq_true rfl) dX0_takeOver_146 (fun H locs hP hD hS => ?_)
          have hP : va_P G.1 vwCl ((wO G a sc (gh_st (gh_st (gh_st C 10 (fun _ => q 10 0)) 11 (fun _ => q 11 0)) 12 (fun _ => q 12 0))) ++ (wO G d sd q)) H := hP
          have hD : va_D A ((wO G a sc (gh_st (gh_st (gh_st C 10 (fun _ => q 10 0)) 11 (fun _ => q 11 0)) 12 (fun _ => q 12 0))) ++ (wO G d sd q)) := hD
          refine lv_aload_n hx hb dX0_takeOver_149 rfl (lv_at hl 0 rfl) ?_
          refine lv_aload_n hx hb dX0_takeOver_150 rfl (lv_at hl 1 rfl) ?_
          refine va_get (D := G.1) (ci := 0) (v := .int (q 13 0)) (C := RX0) (T := TX0) (N := 15) hx hb hts (fun w9 h9 => List.mem_cons_of_mem _ (List.mem_append_right _ h9)) hown hK hP 10 rfl rfl 13 (by decide) (hts (.fieldLink RX0 50 "GlassHarp$Orchestra" "inTune" "I") (List.mem_of_getElem? (i := 12) rfl)) (fun _ h9 => h9) rfl dX0_takeOver_151 ?_
          refine va_put (D := G.1) (ci := 0) (v := .int (q 13 0)) (ty := .int) (C := RX0) (T := TX0) (N := 15) hx hb hts (fun w9 h9 => List.mem_cons_of_mem _ (List.mem_append_right _ h9)) tyX0 tyX0_ok nmX0 hown hK hP hD hS 0 rfl rfl 13 (by decide) (hts (.fieldLink RX0 50 "GlassHarp$Orchestra" "inTune" "I") (List.mem_of_getElem? (i := 12) rfl)) (fun _ h9 => h9) rfl (tyX0_ok 13 (by decide)) rfl rfl (Nat.le_of_ble_eq_true rfl) dX0_takeOver_154 (fun H locs hP hD hS => ?_)
          have hP : va_P G.1 vwCl ((wO G a sc (gh_st (gh_st (gh_st (gh_st C 10 (fun _ => q 10 0)) 11 (fun _ => q 11 0)) 12 (fun _ => q 12 0)) 13 (fun _ => q 13 0))) ++ (wO G d sd q)) H := hP
          have hD : va_D A ((wO G a sc (gh_st (gh_st (gh_st (gh_st C 10 (fun _ => q 10 0)) 11 (fun _ => q 11 0)) 12 (fun _ => q 12 0)) 13 (fun _ => q 13 0))) ++ (wO G d sd q)) := hD
          refine lv_aload_n hx hb dX0_takeOver_157 rfl (lv_at hl 0 rfl) ?_
          refine lv_aload_n hx hb dX0_takeOver_158 rfl (lv_at hl 1 rfl) ?_
          refine va_get (D := G.1) (ci := 0) (v := .int (q 14 0)) (C := RX0) (T := TX0) (N := 15) hx hb hts (fun w9 h9 => List.mem_cons_of_mem _ (List.mem_append_right _ h9)) hown hK hP 10 rfl rfl 14 (by decide) (hts (.fieldLink RX0 53 "GlassHarp$Orchestra" "missed" "I") (List.mem_of_getElem? (i := 13) rfl)) (fun _ h9 => h9) rfl dX0_takeOver_159 ?_
          refine va_put (D := G.1) (ci := 0) (v := .int (q 14 0)) (ty := .int) (C := RX0) (T := TX0) (N := 15) hx hb hts (fun w9 h9 => List.mem_cons_of_mem _ (List.mem_append_right _ h9)) tyX0 tyX0_ok nmX0 hown hK hP hD hS 0 rfl rfl 14 (by decide) (hts (.fieldLink RX0 53 "GlassHarp$Orchestra" "missed" "I") (List.mem_of_getElem? (i := 13) rfl)) (fun _ h9 => h9) rfl (tyX0_ok 14 (by decide)) rfl rfl (Nat.le_of_ble_eq_true rfl) dX0_takeOver_162 (fun H locs hP hD hS => ?_)
          have hP : va_P G.1 vwCl ((wO G a sc (gh_st (gh_st (gh_st (gh_st (gh_st C 10 (fun _ => q 10 0)) 11 (fun _ => q 11 0)) 12 (fun _ => q 12 0)) 13 (fun _ => q 13 0)) 14 (fun _ => q 14 0))) ++ (wO G d sd q)) H := hP
          have hD : va_D A ((wO G a sc (gh_st (gh_st (gh_st (gh_st (gh_st C 10 (fun _ => q 10 0)) 11 (fun _ => q 11 0)) 12 (fun _ => q 12 0)) 13 (fun _ => q 13 0)) 14 (fun _ => q 14 0))) ++ (wO G d sd q)) := hD
          have hP9 : va_P G.1 vwCl ((wO G a sc (gh_to q o n)) ++ (wO G d sd q)) H := by
            have e9 : gh_st (gh_st (gh_st (gh_st (gh_st C 10 (fun _ => q 10 0)) 11 (fun _ => q 11 0)) 12 (fun _ => q 12 0)) 13 (fun _ => q 13 0)) 14 (fun _ => q 14 0) = gh_to q o n := by first | (simp only [gh_to, gh_tc, ← EB, ← EC, c_2, ↓reduceIte, if_true, if_false]; done) | (simp only [gh_to, gh_tc, ← EB, ← EC]; simp only [c_2, ↓reduceIte, if_true, if_false]; done)
            rw [← e9]
            exact hP
          exact W.vret hx hb hr (fun t9 ht hW => ⟨⟨(), rfl, trivial, gh_hp hP9 ht⟩, hS.F ht⟩) hS.2.2 dX0_takeOver_165
        · intro i hi_lo hi ih
          intro C EC H locs hP hD hS ls hl
          refine lv_iload_n hx hb dX0_takeOver_90 rfl (lv_at hl 2 rfl) ?_
          refine lv_iconst (v := 4) hx hb dX0_takeOver_91 (by decide) ?_
          refine lv_icmp_ge (tgt := 125) hx hb dX0_takeOver_92 (by decide) (fun c_3 => absurd c_3 (nI_ge hi (by decide))) (fun c_3 => ?_)
          refine lv_aload_n hx hb dX0_takeOver_95 rfl (lv_at hl 0 rfl) ?_
          refine va_get (D := G.1) (ci := 0) (v := .ref (a 8)) (C := RX0) (T := TX0) (N := 15) hx hb hts (fun w9 h9 => List.mem_cons_of_mem _ (List.mem_append_right _ h9)) hown hK hP 0 rfl rfl 8 (by decide) (hts (.fieldLink RX0 34 "GlassHarp$Orchestra" "air" "[I") (List.mem_of_getElem? (i := 8) rfl)) (fun _ h9 => h9) rfl dX0_takeOver_96 ?_
          refine lv_iload_n hx hb dX0_takeOver_99 rfl (lv_at hl 2 rfl) ?_
          refine lv_aload_n hx hb dX0_takeOver_100 rfl (lv_at hl 1 rfl) ?_
          refine va_get (D := G.1) (ci := 0) (v := .ref (d 8)) (C := RX0) (T := TX0) (N := 15) hx hb hts (fun w9 h9 => List.mem_cons_of_mem _ (List.mem_append_right _ h9)) hown hK hP 10 rfl rfl 8 (by decide) (hts (.fieldLink RX0 34 "GlassHarp$Orchestra" "air" "[I") (List.mem_of_getElem? (i := 8) rfl)) (fun _ h9 => h9) rfl dX0_takeOver_101 ?_
          refine lv_iload_n hx hb dX0_takeOver_104 rfl (lv_at hl 2 rfl) ?_
          refine gh_ia (f := q 8) hx hb hK hP 18 0 rfl rfl i (rfl) (by omega) (by decide) dX0_takeOver_105 ?_
          refine gh_is (f := C 8) (ws' := (wO G a sc (gh_st C 8 (upd (C 8) i (q 8 i)))) ++ (wO G d sd q)) hx hb hK hP hD hS 8 0 rfl rfl i (rfl) (by omega) (by decide) dX0_takeOver_106 rfl (fun H locs hP hD hS => ?_)
          refine lv_aload_n hx hb dX0_takeOver_107 rfl (lv_at hl 0 rfl) ?_
          refine va_get (D := G.1) (ci := 0) (v := .ref (a 9)) (C := RX0) (T := TX0) (N := 15) hx hb hts (fun w9 h9 => List.mem_cons_of_mem _ (List.mem_append_right _ h9)) hown hK hP 0 rfl rfl 9 (by decide) (hts (.fieldLink RX0 37 "GlassHarp$Orchestra" "pumps" "[I") (List.mem_of_getElem? (i := 9) rfl)) (fun _ h9 => h9) rfl dX0_takeOver_108 ?_
          refine lv_iload_n hx hb dX0_takeOver_111 rfl (lv_at hl 2 rfl) ?_
          refine lv_aload_n hx hb dX0_takeOver_112 rfl (lv_at hl 1 rfl) ?_
          refine va_get (D := G.1) (ci := 0) (v := .ref (d 9)) (C := RX0) (T := TX0) (N := 15) hx hb hts (fun w9 h9 => List.mem_cons_of_mem _ (List.mem_append_right _ h9)) hown hK hP 10 rfl rfl 9 (by decide) (hts (.fieldLink RX0 37 "GlassHarp$Orchestra" "pumps" "[I") (List.mem_of_getElem? (i := 9) rfl)) (fun _ h9 => h9) rfl dX0_takeOver_113 ?_
          refine lv_iload_n hx hb dX0_takeOver_116 rfl (lv_at hl 2 rfl) ?_
          refine gh_ia (f := q 9) hx hb hK hP 19 0 rfl rfl i (rfl) (by omega) (by decide) dX0_takeOver_117 ?_
          refine gh_is (f := C 9) (ws' := (wO G a sc (gh_st (gh_st C 8 (upd (C 8) i (q 8 i))) 9 (upd (C 9) i (q 9 i)))) ++ (wO G d sd q)) hx hb hK hP hD hS 9 0 rfl rfl i (rfl) (by omega) (by decide) dX0_takeOver_118 rfl (fun H locs hP hD hS => ?_)
          refine lv_iinc (v := nI (i + 1)) (lv' := [(2, .int (nI (i + 1))), (0, .ref (a 0)), (1, .ref (d 0))]) hx hb dX0_takeOver_119 hl (k := 2) rfl (nI_1 i) (by decide) rfl (fun ls hl => ?_)
          refine lv_goto (tgt := 90) hx hb dX0_takeOver_122 (by decide) ?_
          exact ih (gh_st (gh_st C 8 (upd (C 8) i (q 8 i))) 9 (upd (C 9) i (q 9 i))) (by first | (simp only [gh_ta, ← EB, ← EC, c_3, ↓reduceIte, if_true, if_false]; done) | (simp only [gh_ta, ← EB, ← EC]; simp only [c_3, ↓reduceIte, if_true, if_false]; done)) _ _ hP hD hS _ (lv_sub hl [1, 2, 0] rfl)
      exact J90 B (by first | (simp only [gh_ta, ← EB, c_1, ↓reduceIte, if_true, if_false]; done) | (simp only [gh_ta, ← EB]; simp only [c_1, ↓reduceIte, if_true, if_false]; done)) _ _ hP hD hS _ (lv_sub hl [1, 2, 0] rfl)
    · intro i hi_lo hi ih
      intro B EB H locs hP hD hS ls hl
      refine lv_iload_n hx hb dX0_takeOver_2 rfl (lv_at hl 2 rfl) ?_
      refine lv_aload_n hx hb dX0_takeOver_3 rfl (lv_at hl 1 rfl) ?_
      refine va_get (D := G.1) (ci := 0) (v := .int (q 10 0)) (C := RX0) (T := TX0) (N := 15) hx hb hts (fun w9 h9 => List.mem_cons_of_mem _ (List.mem_append_right _ h9)) hown hK hP 10 rfl rfl 10 (by decide) (hts (.fieldLink RX0 40 "GlassHarp$Orchestra" "glasses" "I") (List.mem_of_getElem? (i := 1) rfl)) (fun _ h9 => h9) rfl dX0_takeOver_4 ?_
      refine gh_vv (y := nI n) (hn) ?_
      refine lv_icmp_ge (tgt := 88) hx hb dX0_takeOver_7 (by decide) (fun c_4 => absurd c_4 (nI_ge hi (Nat.lt_of_le_of_lt hn16 (by decide)))) (fun c_4 => ?_)
      refine lv_aload_n hx hb dX0_takeOver_10 rfl (lv_at hl 0 rfl) ?_
      refine va_get (D := G.1) (ci := 0) (v := .ref (a 1)) (C := RX0) (T := TX0) (N := 15) hx hb hts (fun w9 h9 => List.mem_cons_of_mem _ (List.mem_append_right _ h9)) hown hK hP 0 rfl rfl 1 (by decide) (hts (.fieldLink RX0 9 "GlassHarp$Orchestra" "rows" "[I") (List.mem_of_getElem? (i := 2) rfl)) (fun _ h9 => h9) rfl dX0_takeOver_11 ?_
      refine lv_iload_n hx hb dX0_takeOver_14 rfl (lv_at hl 2 rfl) ?_
      refine lv_aload_n hx hb dX0_takeOver_15 rfl (lv_at hl 1 rfl) ?_
      refine va_get (D := G.1) (ci := 0) (v := .ref (d 1)) (C := RX0) (T := TX0) (N := 15) hx hb hts (fun w9 h9 => List.mem_cons_of_mem _ (List.mem_append_right _ h9)) hown hK hP 10 rfl rfl 1 (by decide) (hts (.fieldLink RX0 9 "GlassHarp$Orchestra" "rows" "[I") (List.mem_of_getElem? (i := 2) rfl)) (fun _ h9 => h9) rfl dX0_takeOver_16 ?_
      refine lv_iload_n hx hb dX0_takeOver_19 rfl (lv_at hl 2 rfl) ?_
      refine gh_ia (f := q 1) hx hb hK hP 11 0 rfl rfl i (rfl) (by omega) (by decide) dX0_takeOver_20 ?_
      refine gh_is (f := B 1) (ws' := (wO G a sc (gh_st B 1 (upd (B 1) i (q 1 i)))) ++ (wO G d sd q)) hx hb hK hP hD hS 1 0 rfl rfl i (rfl) (by omega) (by decide) dX0_takeOver_21 rfl (fun H locs hP hD hS => ?_)
      refine lv_aload_n hx hb dX0_takeOver_22 rfl (lv_at hl 0 rfl) ?_
      refine va_get (D := G.1) (ci := 0) (v := .ref (a 2)) (C := RX0) (T := TX0) (N := 15) hx hb hts (fun w9 h9 => List.mem_cons_of_mem _ (List.mem_append_right _ h9)) hown hK hP 0 rfl rfl 2 (by decide) (hts (.fieldLink RX0 15 "GlassHarp$Orchestra" "sizes" "[I") (List.mem_of_getElem? (i := 3) rfl)) (fun _ h9 => h9) rfl dX0_takeOver_23 ?_
      refine lv_iload_n hx hb dX0_takeOver_26 rfl (lv_at hl 2 rfl) ?_
      refine lv_aload_n hx hb dX0_takeOver_27 rfl (lv_at hl 1 rfl) ?_
      refine va_get (D := G.1) (ci := 0) (v := .ref (d 2)) (C := RX0) (T := TX0) (N := 15) hx hb hts (fun w9 h9 => List.mem_cons_of_mem _ (List.mem_append_right _ h9)) hown hK hP 10 rfl rfl 2 (by decide) (hts (.fieldLink RX0 15 "GlassHarp$Orchestra" "sizes" "[I") (List.mem_of_getElem? (i := 3) rfl)) (fun _ h9 => h9) rfl dX0_takeOver_28 ?_
      refine lv_iload_n hx hb dX0_takeOver_31 rfl (lv_at hl 2 rfl) ?_
      refine gh_ia (f := q 2) hx hb hK hP 12 0 rfl rfl i (rfl) (by omega) (by decide) dX0_takeOver_32 ?_
      refine gh_is (f := B 2) (ws' := (wO G a sc (gh_st (gh_st B 1 (upd (B 1) i (q 1 i))) 2 (upd (B 2) i (q 2 i)))) ++ (wO G d sd q)) hx hb hK hP hD hS 2 0 rfl rfl i (rfl) (by omega) (by decide) dX0_takeOver_33 rfl (fun H locs hP hD hS => ?_)
      refine lv_aload_n hx hb dX0_takeOver_34 rfl (lv_at hl 0 rfl) ?_
      refine va_get (D := G.1) (ci := 0) (v := .ref (a 3)) (C := RX0) (T := TX0) (N := 15) hx hb hts (fun w9 h9 => List.mem_cons_of_mem _ (List.mem_append_right _ h9)) hown hK hP 0 rfl rfl 3 (by decide) (hts (.fieldLink RX0 18 "GlassHarp$Orchestra" "drops" "[I") (List.mem_of_getElem? (i := 4) rfl)) (fun _ h9 => h9) rfl dX0_takeOver_35 ?_
      refine lv_iload_n hx hb dX0_takeOver_38 rfl (lv_at hl 2 rfl) ?_
      refine lv_aload_n hx hb dX0_takeOver_39 rfl (lv_at hl 1 rfl) ?_
      refine va_get (D := G.1) (ci := 0) (v := .ref (d 3)) (C := RX0) (T := TX0) (N := 15) hx hb hts (fun w9 h9 => List.mem_cons_of_mem _ (List.mem_append_right _ h9)) hown hK hP 10 rfl rfl 3 (by decide) (hts (.fieldLink RX0 18 "GlassHarp$Orchestra" "drops" "[I") (List.mem_of_getElem? (i := 4) rfl)) (fun _ h9 => h9) rfl dX0_takeOver_40 ?_
      refine lv_iload_n hx hb dX0_takeOver_43 rfl (lv_at hl 2 rfl) ?_
      refine gh_ia (f := q 3) hx hb hK hP 13 0 rfl rfl i (rfl) (by omega) (by decide) dX0_takeOver_44 ?_
      refine gh_is (f := B 3) (ws' := (wO G a sc (gh_st (gh_st (gh_st B 1 (upd (B 1) i (q 1 i))) 2 (upd (B 2) i (q 2 i))) 3 (upd (B 3) i (q 3 i)))) ++ (wO G d sd q)) hx hb hK hP hD hS 3 0 rfl rfl i (rfl) (by omega) (by decide) dX0_takeOver_45 rfl (fun H locs hP hD hS => ?_)
      refine lv_aload_n hx hb dX0_takeOver_46 rfl (lv_at hl 0 rfl) ?_
      refine va_get (D := G.1) (ci := 0) (v := .ref (a 4)) (C := RX0) (T := TX0) (N := 15) hx hb hts (fun w9 h9 => List.mem_cons_of_mem _ (List.mem_append_right _ h9)) hown hK hP 0 rfl rfl 4 (by decide) (hts (.fieldLink RX0 21 "GlassHarp$Orchestra" "cracked" "[Z") (List.mem_of_getElem? (i := 5) rfl)) (fun _ h9 => h9) rfl dX0_takeOver_47 ?_
      refine lv_iload_n hx hb dX0_takeOver_50 rfl (lv_at hl 2 rfl) ?_
      refine lv_aload_n hx hb dX0_takeOver_51 rfl (lv_at hl 1 rfl) ?_
      refine va_get (D := G.1) (ci := 0) (v := .ref (d 4)) (C := RX0) (T := TX0) (N := 15) hx hb hts (fun w9 h9 => List.mem_cons_of_mem _ (List.mem_append_right _ h9)) hown hK hP 10 rfl rfl 4 (by decide) (hts (.fieldLink RX0 21 "GlassHarp$Orchestra" "cracked" "[Z") (List.mem_of_getElem? (i := 5) rfl)) (fun _ h9 => h9) rfl dX0_takeOver_52 ?_
      refine lv_iload_n hx hb dX0_takeOver_55 rfl (lv_at hl 2 rfl) ?_
      refine gh_za (f := q 4) hx hb hK hP 14 1 rfl rfl i (rfl) (by omega) (by decide) dX0_takeOver_56 ?_
      refine gh_zs (f := B 4) (ws' := (wO G a sc (gh_st (gh_st (gh_st (gh_st B 1 (upd (B 1) i (q 1 i))) 2 (upd (B 2) i (q 2 i))) 3 (upd (B 3) i (q 3 i))) 4 (upd (B 4) i (vp_nar .boolean (q 4 i))))) ++ (wO G d sd q)) hx hb hK hP hD hS 4 1 rfl rfl i (rfl) (by omega) (by decide) dX0_takeOver_57 (rfl) rfl (fun H locs hP hD hS => ?_)
      refine lv_aload_n hx hb dX0_takeOver_58 rfl (lv_at hl 0 rfl) ?_
      refine va_get (D := G.1) (ci := 0) (v := .ref (a 5)) (C := RX0) (T := TX0) (N := 15) hx hb hts (fun w9 h9 => List.mem_cons_of_mem _ (List.mem_append_right _ h9)) hown hK hP 0 rfl rfl 5 (by decide) (hts (.fieldLink RX0 25 "GlassHarp$Orchestra" "rings" "[I") (List.mem_of_getElem? (i := 6) rfl)) (fun _ h9 => h9) rfl dX0_takeOver_59 ?_
      refine lv_iload_n hx hb dX0_takeOver_62 rfl (lv_at hl 2 rfl) ?_
      refine lv_aload_n hx hb dX0_takeOver_63 rfl (lv_at hl 1 rfl) ?_
      refine va_get (D := G.1) (ci := 0) (v := .ref (d 5)) (C := RX0) (T := TX0) (N := 15) hx hb hts (fun w9 h9 => List.mem_cons_of_mem _ (List.mem_append_right _ h9)) hown hK hP 10 rfl rfl 5 (by decide) (hts (.fieldLink RX0 25 "GlassHarp$Orchestra" "rings" "[I") (List.mem_of_getElem? (i := 6) rfl)) (fun _ h9 => h9) rfl dX0_takeOver_64 ?_
      refine lv_iload_n hx hb dX0_takeOver_67 rfl (lv_at hl 2 rfl) ?_
      refine gh_ia (f := q 5) hx hb hK hP 15 0 rfl rfl i (rfl) (by omega) (by decide) dX0_takeOver_68 ?_
      refine gh_is (f := B 5) (ws' := (wO G a sc (gh_st (gh_st (gh_st (gh_st (gh_st B 1 (upd (B 1) i (q 1 i))) 2 (upd (B 2) i (q 2 i))) 3 (upd (B 3) i (q 3 i))) 4 (upd (B 4) i (vp_nar .boolean (q 4 i)))) 5 (upd (B 5) i (q 5 i)))) ++ (wO G d sd q)) hx hb hK hP hD hS 5 0 rfl rfl i (rfl) (by omega) (by decide) dX0_takeOver_69 rfl (fun H locs hP hD hS => ?_)
      refine lv_aload_n hx hb dX0_takeOver_70 rfl (lv_at hl 0 rfl) ?_
      refine va_get (D := G.1) (ci := 0) (v := .ref (a 6)) (C := RX0) (T := TX0) (N := 15) hx hb hts (fun w9 h9 => List.mem_cons_of_mem _ (List.mem_append_right _ h9)) hown hK hP 0 rfl rfl 6 (by decide) (hts (.fieldLink RX0 28 "GlassHarp$Orchestra" "plays" "[I") (List.mem_of_getElem? (i := 7) rfl)) (fun _ h9 => h9) rfl dX0_takeOver_71 ?_
      refine lv_iload_n hx hb dX0_takeOver_74 rfl (lv_at hl 2 rfl) ?_
      refine lv_aload_n hx hb dX0_takeOver_75 rfl (lv_at hl 1 rfl) ?_
      refine va_get (D := G.1) (ci := 0) (v := .ref (d 6)) (C := RX0) (T := TX0) (N := 15) hx hb hts (fun w9 h9 => List.mem_cons_of_mem _ (List.mem_append_right _ h9)) hown hK hP 10 rfl rfl 6 (by decide) (hts (.fieldLink RX0 28 "GlassHarp$Orchestra" "plays" "[I") (List.mem_of_getElem? (i := 7) rfl)) (fun _ h9 => h9) rfl dX0_takeOver_76 ?_
      refine lv_iload_n hx hb dX0_takeOver_79 rfl (lv_at hl 2 rfl) ?_
      refine gh_ia (f := q 6) hx hb hK hP 16 0 rfl rfl i (rfl) (by omega) (by decide) dX0_takeOver_80 ?_
      refine gh_is (f := B 6) (ws' := (wO G a sc (gh_st (gh_st (gh_st (gh_st (gh_st (gh_st B 1 (upd (B 1) i (q 1 i))) 2 (upd (B 2) i (q 2 i))) 3 (upd (B 3) i (q 3 i))) 4 (upd (B 4) i (vp_nar .boolean (q 4 i)))) 5 (upd (B 5) i (q 5 i))) 6 (upd (B 6) i (q 6 i)))) ++ (wO G d sd q)) hx hb hK hP hD hS 6 0 rfl rfl i (rfl) (by omega) (by decide) dX0_takeOver_81 rfl (fun H locs hP hD hS => ?_)
      refine lv_iinc (v := nI (i + 1)) (lv' := [(2, .int (nI (i + 1))), (0, .ref (a 0)), (1, .ref (d 0))]) hx hb dX0_takeOver_82 hl (k := 2) rfl (nI_1 i) (by decide) rfl (fun ls hl => ?_)
      refine lv_goto (tgt := 2) hx hb dX0_takeOver_85 (by decide) ?_
      exact ih (gh_st (gh_st (gh_st (gh_st (gh_st (gh_st B 1 (upd (B 1) i (q 1 i))) 2 (upd (B 2) i (q 2 i))) 3 (upd (B 3) i (q 3 i))) 4 (upd (B 4) i (vp_nar .boolean (q 4 i)))) 5 (upd (B 5) i (q 5 i))) 6 (upd (B 6) i (q 6 i))) (by first | (simp only [gh_tk, ← EB, c_4, ↓reduceIte, if_true, if_false]; done) | (simp only [gh_tk, ← EB]; simp only [c_4, ↓reduceIte, if_true, if_false]; done)) _ _ hP hD hS _ (lv_sub hl [1, 2, 0] rfl)
  exact J2 o (by first | (simp only [gh_tk, ↓reduceIte, if_true, if_false]; done) | (simp only [gh_tk, ↓reduceIte, if_true, if_false]; rfl)) _ _ hP hD hS _ (lv_sub hl [1, 2, 0] rfl)
set_option maxHeartbeats 4000000 in
set_option maxRecDepth 100000 in
theorem c_X0_addGlass (l : Launch) (G : gh_G) (sz : Nat) (a : Nat → Nat) (sc : Nat) (o : gh_B) (n : Nat) (r : Int32) (x : Int32) (y : Int32) (hn : o 10 0 = nI n) (hn16 : n ≤ 16) : Met l yX0_addGlass wsX0_addGlass ({ frames := 0, cells := 0, slots := 0, locals := 0 } : Room) (gh_w G [.ref (a 0), .int r, .int x, .int y] (wO G a sc o) sz) (va_Qi (fun (r9 : Int32) (_ : Unit) => r9 = if nI n < 16 then nI n else -1) (fun _ t9 => va_P G.1 vwCl (wO G a sc (gh_ad o n r x y)) t9.heap) (va_A (wO G a sc o) sz)) 0 0 (va_A (wO G a sc o) sz) := by
  refine Met.ofW (cc := cX0_addGlass) (maxL := 5) (ret := (some .int)) (by decide) rfl ?_
  intro p e s m args below meth c s₁ B hml hv
  obtain ⟨rfl, hsz, hP, hE, hD0⟩ := hv
  have hx := B.exec
  have hb := B.bytes
  have hr := B.returns
  have hts := atoms_spec (ws := wsX0_addGlass) B.pre
  have hown : s.vm.findClass RX0 = some m.cls := findClass_of_methodNamed B.named
  have hlocks := B.notSynchronized
  have hK := hE.1
  subst hsz
  have hD := hD0.self (sz := s.heap.size)
  generalize hAe : va_A (wO G a sc o) s.heap.size = A at hD ⊢
  have hA : ∀ q : Nat, s.heap.size ≤ q → A q := fun q h => by rw [← hAe]; exact Or.inr h
  have hS : va_S A s.heap s.heap [] := va_S.rf
  have hl := lv_entry ([.ref (a 0), .int r, .int x, .int y]) (n := 5) (Nat.le_of_ble_eq_true rfl)
  rw [lg_entry_eq]
  generalize (lg_sl ([.ref (a 0), .int r, .int x, .int y]) ++ List.replicate (5 - (lg_sl ([.ref (a 0), .int r, .int x, .int y])).length) Slot.unset).toArray = ls at hl ⊢
  have hl : lv_has ls 5 [(0, .ref (a 0)), (1, .int r), (2, .int x), (3, .int y)] := hl
  refine lv_aload_n hx hb dX0_addGlass_0 rfl (lv_at hl 0 rfl) ?_
  refine va_get (D := G.1) (ci := 0) (v := .int (o 10 0)) (C := RX0) (T := TX0) (N := 15) hx hb hts (fun w9 h9 => List.mem_cons_of_mem _ (List.mem_append_right _ h9)) hown hK hP 0 rfl rfl 10 (by decide) (hts (.fieldLink RX0 40 "GlassHarp$Orchestra" "glasses" "I") (List.mem_of_getElem? (i := 1) rfl)) (fun _ h9 => h9) rfl dX0_addGlass_1 ?_
  refine gh_vv (y := nI n) (hn) ?_
  refine lv_bipush (v := 16) hx hb dX0_addGlass_4 (by decide) ?_
  refine lv_icmp_lt (tgt := 11) hx hb dX0_addGlass_6 (by decide) (fun c_1 => ?_) (fun c_1 => ?_)
  · skip
    have hnn : n < 16 := gh_lt_n c_1 rfl (Nat.lt_of_le_of_lt hn16 (by decide)) (by decide)
    refine lv_aload_n hx hb dX0_addGlass_11 rfl (lv_at hl 0 rfl) ?_
    refine va_get (D := G.1) (ci := 0) (v := .int (o 10 0)) (C := RX0) (T := TX0) (N := 15) hx hb hts (fun w9 h9 => List.mem_cons_of_mem _ (List.mem_append_right _ h9)) hown hK hP 0 rfl rfl 10 (by decide) (hts (.fieldLink RX0 40 "GlassHarp$Orchestra" "glasses" "I") (List.mem_of_getElem? (i := 1) rfl)) (fun _ h9 => h9) rfl dX0_addGlass_12 ?_
    refine gh_vv (y := nI n) (hn) ?_
    refine lv_istore (lv' := [(4, .int (nI n)), (0, .ref (a 0)), (1, .int r), (2, .int x), (3, .int y)]) hx hb dX0_addGlass_15 hl (by decide) rfl (fun ls hl => ?_)
    refine lv_aload_n hx hb dX0_addGlass_17 rfl (lv_at hl 1 rfl) ?_
    refine va_get (D := G.1) (ci := 0) (v := .ref (a 1)) (C := RX0) (T := TX0) (N := 15) hx hb hts (fun w9 h9 => List.mem_cons_of_mem _ (List.mem_append_right _ h9)) hown hK hP 0 rfl rfl 1 (by decide) (hts (.fieldLink RX0 9 "GlassHarp$Orchestra" "rows" "[I") (List.mem_of_getElem? (i := 2) rfl)) (fun _ h9 => h9) rfl dX0_addGlass_18 ?_
    refine lv_iload hx hb dX0_addGlass_21 (lv_at hl 0 rfl) ?_
    refine lv_iload_n hx hb dX0_addGlass_23 rfl (lv_at hl 2 rfl) ?_
    refine gh_is (f := o 1) (ws' := wO G a sc (gh_st o 1 (upd (o 1) n r))) hx hb hK hP hD hS 1 0 rfl rfl n (rfl) (by omega) (by decide) dX0_addGlass_24 rfl (fun H locs hP hD hS => ?_)
    refine lv_aload_n hx hb dX0_addGlass_25 rfl (lv_at hl 1 rfl) ?_
    refine va_get (D := G.1) (ci := 0) (v := .ref (a 2)) (C := RX0) (T := TX0) (N := 15) hx hb hts (fun w9 h9 => List.mem_cons_of_mem _ (List.mem_append_right _ h9)) hown hK hP 0 rfl rfl 2 (by decide) (hts (.fieldLink RX0 15 "GlassHarp$Orchestra" "sizes" "[I") (List.mem_of_getElem? (i := 3) rfl)) (fun _ h9 => h9) rfl dX0_addGlass_26 ?_
    refine lv_iload hx hb dX0_addGlass_29 (lv_at hl 0 rfl) ?_
    refine lv_iload_n hx hb dX0_addGlass_31 rfl (lv_at hl 3 rfl) ?_
    refine gh_is (f := o 2) (ws' := wO G a sc (gh_st (gh_st o 1 (upd (o 1) n r)) 2 (upd (o 2) n x))) hx hb hK hP hD hS 2 0 rfl rfl n (rfl) (by omega) (by decide) dX0_addGlass_32 rfl (fun H locs hP hD hS => ?_)
    refine lv_aload_n hx hb dX0_addGlass_33 rfl (lv_at hl 1 rfl) ?_
    refine va_get (D := G.1) (ci := 0) (v := .ref (a 3)) (C := RX0) (T := TX0) (N := 15) hx hb hts (fun w9 h9 => List.mem_cons_of_mem _ (List.mem_append_right _ h9)) hown hK hP 0 rfl rfl 3 (by decide) (hts (.fieldLink RX0 18 "GlassHarp$Orchestra" "drops" "[I") (List.mem_of_getElem? (i := 4) rfl)) (fun _ h9 => h9) rfl dX0_addGlass_34 ?_
    refine lv_iload hx hb dX0_addGlass_37 (lv_at hl 0 rfl) ?_
    refine lv_iload_n hx hb dX0_addGlass_39 rfl (lv_at hl 4 rfl) ?_
    refine gh_is (f := o 3) (ws' := wO G a sc (gh_st (gh_st (gh_st o 1 (upd (o 1) n r)) 2 (upd (o 2) n x)) 3 (upd (o 3) n y))) hx hb hK hP hD hS 3 0 rfl rfl n (rfl) (by omega) (by decide) dX0_addGlass_40 rfl (fun H locs hP hD hS => ?_)
    refine lv_aload_n hx hb dX0_addGlass_41 rfl (lv_at hl 1 rfl) ?_
    refine lv_dup hx hb dX0_addGlass_42 rfl ?_
    refine va_get (D := G.1) (ci := 0) (v := .int (o 10 0)) (C := RX0) (T := TX0) (N := 15) hx hb hts (fun w9 h9 => List.mem_cons_of_mem _ (List.mem_append_right _ h9)) hown hK hP 0 rfl rfl 10 (by decide) (hts (.fieldLink RX0 40 "GlassHarp$Orchestra" "glasses" "I") (List.mem_of_getElem? (i := 1) rfl)) (fun _ h9 => h9) rfl dX0_addGlass_43 ?_
    refine gh_vv (y := nI n) (hn) ?_
    refine lv_iconst (v := 1) hx hb dX0_addGlass_46 (by decide) ?_
    refine lv_iadd hx hb dX0_addGlass_47 ?_
    refine gh_vv (y := nI (n + 1)) (nI_1 n) ?_
    refine va_put (D := G.1) (ci := 0) (v := .int (nI (n + 1))) (ty := .int) (C := RX0) (T := TX0) (N := 15) hx hb hts (fun w9 h9 => List.mem_cons_of_mem _ (List.mem_append_right _ h9)) tyX0 tyX0_ok nmX0 hown hK hP hD hS 0 rfl rfl 10 (by decide) (hts (.fieldLink RX0 40 "GlassHarp$Orchestra" "glasses" "I") (List.mem_of_getElem? (i := 1) rfl)) (fun _ h9 => h9) rfl (tyX0_ok 10 (by decide)) rfl rfl (Nat.le_of_ble_eq_true rfl) dX0_addGlass_48 (fun H locs hP hD hS => ?_)
    have hP : va_P G.1 vwCl (wO G a sc (gh_st (gh_st (gh_st (gh_st o 1 (upd (o 1) n r)) 2 (upd (o 2) n x)) 3 (upd (o 3) n y)) 10 (fun _ => nI (n + 1)))) H := hP
    have hD : va_D A (wO G a sc (gh_st (gh_st (gh_st (gh_st o 1 (upd (o 1) n r)) 2 (upd (o 2) n x)) 3 (upd (o 3) n y)) 10 (fun _ => nI (n + 1)))) := hD
    refine lv_iload hx hb dX0_addGlass_51 (lv_at hl 0 rfl) ?_
    have hP9 : va_P G.1 vwCl (wO G a sc (gh_ad o n r x y)) H := by
      have e9 : gh_st (gh_st (gh_st (gh_st o 1 (upd (o 1) n r)) 2 (upd (o 2) n x)) 3 (upd (o 3) n y)) 10 (fun _ => nI (n + 1)) = gh_ad o n r x y := by first | (simp only [gh_ad, c_1, ↓reduceIte, if_true, if_false]; done) | (simp only [gh_ad]; simp only [c_1, ↓reduceIte, if_true, if_false]; done)
      rw [← e9]
      exact hP
    exact W.iret (v := nI n) hx hb hr (fun t9 ht hW => ⟨⟨nI n, (), rfl, by first | (simp only [gh_ad, c_1, ↓reduceIte, if_true, if_false]; done) | (simp only [gh_ad]; simp only [c_1, ↓reduceIte, if_true, if_false]; done), gh_hp hP9 ht⟩, hS.F ht⟩) hS.2.2 dX0_addGlass_53
  · skip
    refine lv_iconst (v := (-1)) hx hb dX0_addGlass_9 (by decide) ?_
    have hP9 : va_P G.1 vwCl (wO G a sc (gh_ad o n r x y)) s.heap := by
      have e9 : o = gh_ad o n r x y := by first | (simp only [gh_ad, c_1, ↓reduceIte, if_true, if_false]; done) | (simp only [gh_ad]; simp only [c_1, ↓reduceIte, if_true, if_false]; done)
      rw [← e9]
      exact hP
    exact W.iret (v := (-1)) hx hb hr (fun t9 ht hW => ⟨⟨(-1), (), rfl, by first | (simp only [gh_ad, c_1, ↓reduceIte, if_true, if_false]; done) | (simp only [gh_ad]; simp only [c_1, ↓reduceIte, if_true, if_false]; done), gh_hp hP9 ht⟩, hS.F ht⟩) hS.2.2 dX0_addGlass_10
set_option maxHeartbeats 4000000 in
set_option maxRecDepth 100000 in
theorem c_X0_tuneTo (l : Launch) (G : gh_G) (sz : Nat) (a : Nat → Nat) (sc : Nat) (o : gh_B) (n : Nat) (k : Nat) (t : Int32) (hn : o 10 0 = nI n) (hn16 : n ≤ 16) (hk : k < n) : Met l yX0_tuneTo wsX0_tuneTo ({ frames := 4, cells := 0, slots := 0, locals := 88 } : Room) (gh_w G [.ref (a 0), .int (nI k), .int t] (wO G a sc o) sz) (va_Qv (fun _ : Unit => True) (fun _ t9 => va_P G.1 vwCl (wO G a sc (gh_tu o k t)) t9.heap) (va_A (wO G a sc o) sz)) 0 0 (va_A (wO G a sc o) sz) := by
  refine Met.ofW (cc := cX0_tuneTo) (maxL := 3) (ret := none) (by decide) rfl ?_
  intro p e s m args below meth c s₁ B hml hv
  obtain ⟨rfl, hsz, hP, hE, hD0⟩ := hv
  have hx := B.exec
  have hb := B.bytes
  have hr := B.returns
  have hts := atoms_spec (ws := wsX0_tuneTo) B.pre
  have hown : s.vm.findClass RX0 = some m.cls := findClass_of_methodNamed B.named
  have hlocks := B.notSynchronized
  have hK := hE.1
  subst hsz
  have hD := hD0.self (sz := s.heap.size)
  generalize hAe : va_A (wO G a sc o) s.heap.size = A at hD ⊢
  have hA : ∀ q : Nat, s.heap.size ≤ q → A q := fun q h => by rw [← hAe]; exact Or.inr h
  have hS : va_S A s.heap s.heap [] := va_S.rf
  have hl := lv_entry ([.ref (a 0), .int (nI k), .int t]) (n := 3) (Nat.le_of_ble_eq_true rfl)
  rw [lg_entry_eq]
  generalize (lg_sl ([.ref (a 0), .int (nI k), .int t]) ++ List.replicate (3 - (lg_sl ([.ref (a 0), .int (nI k), .int t])).length) Slot.unset).toArray = ls at hl ⊢
  have hl : lv_has ls 3 [(0, .ref (a 0)), (1, .int (nI k)), (2, .int t)] := hl
  refine lv_aload_n hx hb dX0_tuneTo_0 rfl (lv_at hl 0 rfl) ?_
  refine lv_iload_n hx hb dX0_tuneTo_1 rfl (lv_at hl 1 rfl) ?_
  refine lv_iload_n hx hb dX0_tuneTo_2 rfl (lv_at hl 2 rfl) ?_
  refine gh_ci (va_runV (As := [.int (nI k), .int t]) (rest := []) ⟨hx, hb, hml, hown, hts⟩ (c_X0_canBeTuned l G a sc o n k t (hn) (hn16) (hk)) (cwV 2 hts gX0_tuneTo_X0_canBeTuned rfl rfl rfl ⟨rfl, hdS_X0_canBeTuned⟩ ⟨Nat.le_of_ble_eq_true rfl, Nat.le_of_ble_eq_true rfl⟩) (gh_rV hE hP (ci := 0) (q0 := 0) rfl rfl) rfl rfl hl.1 rfl (lv_room (Nat.le_of_ble_eq_true rfl)) dX0_tuneTo_3 ⟨Nat.le_of_ble_eq_true rfl, Nat.le_of_ble_eq_true rfl⟩) ?_
  refine lv_if_eq (tgt := 21) hx hb dX0_tuneTo_6 (by decide) (fun c_1 => ?_) (fun c_1 => ?_)
  · skip
    have hP9 : va_P G.1 vwCl (wO G a sc (gh_tu o k t)) s.heap := by
      have e9 : o = gh_tu o k t := by first | (simp only [gh_tu, c_1, ↓reduceIte, if_true, if_false]; done) | (simp only [gh_tu]; simp only [c_1, ↓reduceIte, if_true, if_false]; done)
      rw [← e9]
      exact hP
    exact W.vret hx hb hr (fun t9 ht hW => ⟨⟨(), rfl, trivial, gh_hp hP9 ht⟩, hS.F ht⟩) hS.2.2 dX0_tuneTo_21
  · skip
    refine lv_aload_n hx hb dX0_tuneTo_9 rfl (lv_at hl 0 rfl) ?_
    refine va_get (D := G.1) (ci := 0) (v := .ref (a 3)) (C := RX0) (T := TX0) (N := 15) hx hb hts (fun w9 h9 => List.mem_cons_of_mem _ (List.mem_append_right _ h9)) hown hK hP 0 rfl rfl 3 (by decide) (hts (.fieldLink RX0 18 "GlassHarp$Orchestra" "drops" "[I") (List.mem_of_getElem? (i := 1) rfl)) (fun _ h9 => h9) rfl dX0_tuneTo_10 ?_
    refine lv_iload_n hx hb dX0_tuneTo_13 rfl (lv_at hl 1 rfl) ?_
    refine lv_aload_n hx hb dX0_tuneTo_14 rfl (lv_at hl 0 rfl) ?_
    refine lv_iload_n hx hb dX0_tuneTo_15 rfl (lv_at hl 1 rfl) ?_
    refine lv_iload_n hx hb dX0_tuneTo_16 rfl (lv_at hl 2 rfl) ?_
    refine gh_ci (va_runV (As := [.int (nI k), .int t]) (rest := [.int (nI k), .ref (a 3)]) ⟨hx, hb, hml, hown, hts⟩ (c_X0_fewestDropsFor l G a sc o n k t (hn) (hn16) (hk)) (cwV 2 hts gX0_tuneTo_X0_fewestDropsFor rfl rfl rfl ⟨rfl, hdS_X0_fewestDropsFor⟩ ⟨Nat.le_of_ble_eq_true rfl, Nat.le_of_ble_eq_true rfl⟩) (gh_rV hE hP (ci := 0) (q0 := 0) rfl rfl) rfl rfl hl.1 rfl (lv_room (Nat.le_of_ble_eq_true rfl)) dX0_tuneTo_17 ⟨Nat.le_of_ble_eq_true rfl, Nat.le_of_ble_eq_true rfl⟩) ?_
    refine gh_is (f := o 3) (ws' := wO G a sc (gh_st o 3 (upd (o 3) k (gh_fw o k t)))) hx hb hK hP hD hS 3 0 rfl rfl k (rfl) (by omega) (by decide) dX0_tuneTo_20 rfl (fun H locs hP hD hS => ?_)
    have hP9 : va_P G.1 vwCl (wO G a sc (gh_tu o k t)) H := by
      have e9 : gh_st o 3 (upd (o 3) k (gh_fw o k t)) = gh_tu o k t := by first | (simp only [gh_tu, c_1, ↓reduceIte, if_true, if_false]; done) | (simp only [gh_tu]; simp only [c_1, ↓reduceIte, if_true, if_false]; done)
      rw [← e9]
      exact hP
    exact W.vret hx hb hr (fun t9 ht hW => ⟨⟨(), rfl, trivial, gh_hp hP9 ht⟩, hS.F ht⟩) hS.2.2 dX0_tuneTo_21
set_option maxHeartbeats 4000000 in
set_option maxRecDepth 100000 in
theorem c_X0_setPump (l : Launch) (G : gh_G) (sz : Nat) (a : Nat → Nat) (sc : Nat) (o : gh_B) (r : Int32) (v : Int32)  : Met l yX0_setPump wsX0_setPump ({ frames := 1, cells := 0, slots := 0, locals := 22 } : Room) (gh_w G [.ref (a 0), .int r, .int v] (wO G a sc o) sz) (va_Qv (fun _ : Unit => True) (fun _ t9 => va_P G.1 vwCl (wO G a sc (gh_sp o r v)) t9.heap) (va_A (wO G a sc o) sz)) 0 0 (va_A (wO G a sc o) sz) := by
  refine Met.ofW (cc := cX0_setPump) (maxL := 3) (ret := none) (by decide) rfl ?_
  intro p e s m args below meth c s₁ B hml hv
  obtain ⟨rfl, hsz, hP, hE, hD0⟩ := hv
  have hx := B.exec
  have hb := B.bytes
  have hr := B.returns
  have hts := atoms_spec (ws := wsX0_setPump) B.pre
  have hown : s.vm.findClass RX0 = some m.cls := findClass_of_methodNamed B.named
  have hlocks := B.notSynchronized
  have hK := hE.1
  subst hsz
  have hD := hD0.self (sz := s.heap.size)
  generalize hAe : va_A (wO G a sc o) s.heap.size = A at hD ⊢
  have hA : ∀ q : Nat, s.heap.size ≤ q → A q := fun q h => by rw [← hAe]; exact Or.inr h
  have hS : va_S A s.heap s.heap [] := va_S.rf
  have hl := lv_entry ([.ref (a 0), .int r, .int v]) (n := 3) (Nat.le_of_ble_eq_true rfl)
  rw [lg_entry_eq]
  generalize (lg_sl ([.ref (a 0), .int r, .int v]) ++ List.replicate (3 - (lg_sl ([.ref (a 0), .int r, .int v])).length) Slot.unset).toArray = ls at hl ⊢
  have hl : lv_has ls 3 [(0, .ref (a 0)), (1, .int r), (2, .int v)] := hl
  refine lv_iload_n hx hb dX0_setPump_0 rfl (lv_at hl 1 rfl) ?_
  refine lv_iconst (v := 0) hx hb dX0_setPump_1 (by decide) ?_
  refine lv_iconst (v := 3) hx hb dX0_setPump_2 (by decide) ?_
  refine gh_ci (va_runSN (As := [.int r, .int 0, .int 3]) (rest := []) ⟨hx, hb, hml, hown, hts⟩ (c_X2_isWithin l G r 0 3) ⟨va_cnB 3 hts gX0_setPump_X2_isWithin_n60 rfl rfl rfl (hE.2.1 (RX0, 60, yX2_isWithin, RX2) (List.mem_of_getElem? (i := 6) rfl)) (hts (.initialized RX2) (List.mem_of_getElem? (i := 3) rfl)) hdS_X2_isWithin ⟨Nat.le_of_ble_eq_true rfl, Nat.le_of_ble_eq_true rfl⟩, (hts (.static yX2_isWithin) (List.mem_of_getElem? (i := 2) rfl)), trivial⟩ (gh_rS hE (fun k q h => by simp at h)) rfl rfl hl.1 rfl (lv_room (Nat.le_of_ble_eq_true rfl)) dX0_setPump_3 ⟨Nat.le_of_ble_eq_true rfl, Nat.le_of_ble_eq_true rfl⟩) ?_
  refine lv_if_eq (tgt := 16) hx hb dX0_setPump_6 (by decide) (fun c_1 => ?_) (fun c_1 => ?_)
  · skip
    have hP9 : va_P G.1 vwCl (wO G a sc (gh_sp o r v)) s.heap := by
      have e9 : o = gh_sp o r v := by first | (simp only [gh_sp, c_1, ↓reduceIte, if_true, if_false]; done) | (simp only [gh_sp]; simp only [c_1, ↓reduceIte, if_true, if_false]; done)
      rw [← e9]
      exact hP
    exact W.vret hx hb hr (fun t9 ht hW => ⟨⟨(), rfl, trivial, gh_hp hP9 ht⟩, hS.F ht⟩) hS.2.2 dX0_setPump_16
  · skip
    refine lv_aload_n hx hb dX0_setPump_9 rfl (lv_at hl 0 rfl) ?_
    refine va_get (D := G.1) (ci := 0) (v := .ref (a 9)) (C := RX0) (T := TX0) (N := 15) hx hb hts (fun w9 h9 => List.mem_cons_of_mem _ (List.mem_append_right _ h9)) hown hK hP 0 rfl rfl 9 (by decide) (hts (.fieldLink RX0 37 "GlassHarp$Orchestra" "pumps" "[I") (List.mem_of_getElem? (i := 1) rfl)) (fun _ h9 => h9) rfl dX0_setPump_10 ?_
    refine lv_iload_n hx hb dX0_setPump_13 rfl (lv_at hl 1 rfl) ?_
    refine lv_iload_n hx hb dX0_setPump_14 rfl (lv_at hl 2 rfl) ?_
    refine va_iast (f := o 9) hx hb hK hP hD hS 9 0 rfl rfl (gh_iw_in c_1) dX0_setPump_15 (fun H locs hP hD hS => ?_)
    have hP : va_P G.1 vwCl (wO G a sc (gh_st o 9 (upd (o 9) r.toNatClampNeg v))) H := hP
    have hD : va_D A (wO G a sc (gh_st o 9 (upd (o 9) r.toNatClampNeg v))) := hD
    have hP9 : va_P G.1 vwCl (wO G a sc (gh_sp o r v)) H := by
      have e9 : gh_st o 9 (upd (o 9) r.toNatClampNeg v) = gh_sp o r v := by first | (simp only [gh_sp, c_1, ↓reduceIte, if_true, if_false]; done) | (simp only [gh_sp]; simp only [c_1, ↓reduceIte, if_true, if_false]; done)
      rw [← e9]
      exact hP
    exact W.vret hx hb hr (fun t9 ht hW => ⟨⟨(), rfl, trivial, gh_hp hP9 ht⟩, hS.F ht⟩) hS.2.2 dX0_setPump_16
end
